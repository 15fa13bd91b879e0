noncomputable def mq_lv (S K n : Nat) (w ro : Nat → Nat) (a b c : Nat) : Nat := (18 * xq_top (mq_po S K n w ro a b c) (mq_wh S K n w ro a b) + xq_bot (mq_po S K n w ro a b c) (mq_wh S K n w ro a b)) / (2 * xq_bot (mq_po S K n w ro a b c) (mq_wh S K n w ro a b))
noncomputable def mq_lsm (S K n : Nat) (w ro : Nat → Nat) : Nat := ms_sum (fun z1 => ms_sum (fun z2 => ms_sum (fun z3 => mq_lv S K n w ro z1 z2 z3) (xq_cl S K z1)) (xq_rw S z1)) 3
theorem mq_pow {S K n : Nat} {w ro : Nat → Nat} {a b c : Nat} (hc : c < xq_cl S K a) : mq_po S K n w ro a b c ≤ mq_wh S K n w ro a b := by
  unfold mq_po mq_wh
  split
  · exact ms_le_sum (f := fun z1 => w (mq_sl a b z1)) hc
  · exact ms_le_sum (f := fun z1 => mq_un S n w ro a b z1) hc
theorem mq_whb {S K n : Nat} {w ro : Nat → Nat} {a b : Nat} (hS0 : 0 < S) (hS3 : S ≤ 3) (hK4 : K ≤ 4) (hn6 : n ≤ 6) (hw : ∀ i, i < 24 → w i ≤ 9) (hsy : ∀ p, p < n → ro p < 4) (ha : a < 3) (hb : b < xq_rw S a) : mq_wh S K n w ro a b ≤ 4941387170271576 := by
  unfold mq_wh
  have h1 : mq_rt S K w a b ≤ 36 := mq_rtb hS3 hK4 hw ha hb _ (Nat.le_refl _)
  have h2 : mq_ru S K n w ro a b ≤ 4941387170271576 := mq_rub hS0 hS3 hK4 hn6 hw hsy _ (Nat.le_refl _)
  split <;> omega
theorem mq_topb {x y : Nat} : xq_top x y ≤ x := by
  unfold xq_top
  split
  · exact Nat.zero_le _
  · exact Nat.div_le_self _ _
theorem mq_botb {x y : Nat} (h : x ≤ y) : 0 < xq_bot x y ∧ xq_bot x y ≤ y + 1 := by
  unfold xq_bot
  by_cases hx : x = 0
  · rw [if_pos hx]
    omega
  · rw [if_neg hx]
    have h1 := Nat.div_le_self y (Nat.gcd x y)
    have h2 : 0 < y / Nat.gcd x y := Nat.div_pos (Nat.le_trans (Nat.gcd_le_left y (by omega)) h) (xq_gcdp hx)
    omega
theorem mq_rwf (S a : Nat) : (a = 0 ∧ xq_rw S a = 1) ∨ (a ≠ 0 ∧ xq_rw S a = S) := by
  unfold xq_rw
  by_cases h : a = 0
  · rw [if_pos h]; exact Or.inl ⟨h, rfl⟩
  · rw [if_neg h]; exact Or.inr ⟨h, rfl⟩
/-- the weights one after the other -/
def mq_or (z1 z2 z3 a b c : Nat) : Prop := z1 < a ∨ (z1 = a ∧ (z2 < b ∨ (z2 = b ∧ z3 < c)))
theorem mq_inj {S K a b c a' b' c' : Nat} (hS3 : S ≤ 3) (hK4 : K ≤ 4) (h : xq_kr S K a b c) (h' : xq_kr S K a' b' c') (e : mq_sl a b c = mq_sl a' b' c') : a = a' ∧ b = b' ∧ c = c' := by
  unfold xq_kr at h h'
  unfold mq_sl at e
  rcases h with ⟨rfl, h1, h2⟩ | ⟨rfl, h1, h2⟩ | ⟨rfl, h1, h2⟩ <;> rcases h' with ⟨rfl, g1, g2⟩ | ⟨rfl, g1, g2⟩ | ⟨rfl, g1, g2⟩ <;> simp at e <;> omega
theorem mq_put {S K a b c : Nat} {F : Nat → Nat → Nat → Nat} {fv : Nat → Nat} {v : Nat} (hS3 : S ≤ 3) (hK4 : K ≤ 4) (hk : xq_kr S K a b c) (hv : v = F a b c) (h : ∀ z1 z2 z3, xq_kr S K z1 z2 z3 → mq_or z1 z2 z3 a b c → fv (mq_sl z1 z2 z3) = F z1 z2 z3) :
    ∀ z1 z2 z3, xq_kr S K z1 z2 z3 → mq_or z1 z2 z3 a b (c + 1) → va_up fv (mq_sl a b c) v (mq_sl z1 z2 z3) = F z1 z2 z3 := by
  intro z1 z2 z3 hz ho
  by_cases e : z1 = a ∧ z2 = b ∧ z3 = c
  · obtain ⟨rfl, rfl, rfl⟩ := e
    rw [xq_up, hv]
  · rw [xq_un (fun q => e (mq_inj hS3 hK4 hz hk q))]
    refine h z1 z2 z3 hz ?_
    unfold mq_or at ho ⊢
    omega
theorem mq_oc {S K a b c z1 z2 z3 : Nat} (hz : xq_kr S K z1 z2 z3) (hc : c = xq_cl S K a) (h : mq_or z1 z2 z3 a (b + 1) 0) : mq_or z1 z2 z3 a b c := by
  have h1 := (xq_kcr hz).2.2
  unfold mq_or at h ⊢
  by_cases e : z1 = a
  · subst e
    omega
  · omega
theorem mq_ob {S K a b z1 z2 z3 : Nat} (hz : xq_kr S K z1 z2 z3) (hb : b = xq_rw S a) (h : mq_or z1 z2 z3 (a + 1) 0 0) : mq_or z1 z2 z3 a b 0 := by
  have h1 := (xq_kcr hz).2.1
  unfold mq_or at h ⊢
  by_cases e : z1 = a
  · subst e
    omega
  · omega
theorem mq_o3 {S K z1 z2 z3 a : Nat} (hz : xq_kr S K z1 z2 z3) (ha : a = 3) : mq_or z1 z2 z3 a 0 0 := by
  have h1 := (xq_kcr hz).1
  unfold mq_or
  omega
theorem mq_o0 {z1 z2 z3 : Nat} (h : mq_or z1 z2 z3 0 0 0) : False := by
  unfold mq_or at h
  omega
theorem mq_lvb {S K n : Nat} {w ro : Nat → Nat} {a b c : Nat} (hc : c < xq_cl S K a) : mq_lv S K n w ro a b c ≤ 9 := by
  unfold mq_lv
  have h1 := mq_pow (S := S) (K := K) (n := n) (w := w) (ro := ro) (a := a) (b := b) hc
  generalize mq_po S K n w ro a b c = x at h1 ⊢
  generalize mq_wh S K n w ro a b = y at h1 ⊢
  obtain ⟨h2, -⟩ := mq_botb h1
  have h3 : xq_top x y ≤ xq_bot x y := by
    unfold xq_top xq_bot
    by_cases hx : x = 0
    · rw [if_pos hx, if_pos hx]; exact Nat.zero_le _
    · rw [if_neg hx, if_neg hx]; exact Nat.div_le_div_right h1
  generalize xq_top x y = t at h3 ⊢
  generalize xq_bot x y = q at h2 h3 ⊢
  rw [← Nat.lt_succ_iff, Nat.div_lt_iff_lt_mul (by omega)]
  omega
set_option maxHeartbeats 4000000 in
set_option maxRecDepth 100000 in
theorem cm_learn (l : Launch) (D : va_G) (cI cL : ClassId) (am : Nat → Nat) (S K n iz dz tp bt : Nat) (w ro wa ch al fr : Nat → Nat) (hV : mq_V S K n w ro) : xt_M l yX1_learn cX1_learn 6 (some .int) 4 D cI cL [.ref (am 0)] (xM am cI cL S K n iz dz tp bt w ro wa ch al fr) (xt_Qi D cI cL (xM am cI cL S K n iz dz tp bt w ro wa ch al fr) (fun (r : Int32) (u : (Nat → Nat) × (Nat → Nat) × (Nat) × (Nat) × (Nat → Nat)) => r = nI (mq_lsm S K n w ro) ∧ (∀ z1 z2 z3, xq_kr S K z1 z2 z3 → u.1 (mq_sl z1 z2 z3) = mq_lv S K n w ro z1 z2 z3) ∧ (∀ z1, z1 < 24 → u.1 z1 ≤ 9)) (fun u => xM am cI cL S K n iz dz u.2.2.1 u.2.2.2.1 u.1 ro u.2.1 ch al u.2.2.2.2)) := by
  have hV2 := hV
  obtain ⟨hS0, hS3, hK0, hK4, hn6, hw, hsK⟩ := hV
  have hsy : ∀ p, p < n → ro p < 4 := fun p h => Nat.lt_of_lt_of_le (hsK p h) hK4
  refine xt_start (own := RX1) rfl (by decide) (Nat.le_of_ble_eq_true rfl) (fun pg ev ss mi args below meth cd A Q ls C hE hA hl hW => ?_)
  replace hl : lv_has ls 6 [(0, .ref (am 0))] := hl
  refine xt_iconst C 0 dX1_learn_0 (by decide +kernel) ?_
  refine lv_istore_n C.1 C.2.1 dX1_learn_1 rfl hl (by decide) rfl (fun ls hl => ?_)
  replace hl : lv_has ls 6 [(1, .int (nI 0)), (0, .ref (am 0))] := hl
  refine xt_iconst C 0 dX1_learn_2 (by decide +kernel) ?_
  refine lv_istore_n C.1 C.2.1 dX1_learn_3 rfl hl (by decide) rfl (fun ls hl => ?_)
  replace hl : lv_has ls 6 [(2, .int (nI 0)), (1, .int (nI 0)), (0, .ref (am 0))] := hl
  have lp4 : ∀ (mq0 : Nat) (a : Nat) (fv : Nat → Nat) (wv : Nat → Nat) (tv : Nat) (bv : Nat), 3 - a = mq0 → (a ≤ 3) → (∀ z1 z2 z3, xq_kr S K z1 z2 z3 → mq_or z1 z2 z3 a 0 0 → fv (mq_sl z1 z2 z3) = mq_lv S K n w ro z1 z2 z3) → ∀ (ls : Array Slot) (H : Heap) (locs : List Loc), lv_has ls 6 [(2, .int (nI a)), (1, .int (nI (ms_sum (fun z1 => ms_sum (fun z2 => ms_sum (fun z3 => mq_lv S K n w ro z1 z2 z3) (xq_cl S K z1)) (xq_rw S z1)) a))), (0, .ref (am 0))] → xt_W D A ss.heap (xM am cI cL S K n iz dz tv bv w ro wv ch al fv) H locs → W pg l ev (xt_R 4) ss mi args below meth cd H locs 0 0 Q (F0 mi 4 ls []) := by
    intro mq0
    induction mq0 using Nat.strongRecOn with
    | _ mq0 ih4 =>
      intro a fv wv tv bv hq4 ha g1 ls H locs hl hW
      refine lv_iload_n C.1 C.2.1 dX1_learn_4 rfl (lv_at hl 0 rfl) ?_
      refine xt_iconst C 3 dX1_learn_5 (by decide +kernel) ?_
      refine xt_icmp_ge C (by omega) (by omega) dX1_learn_6 (tgt := 111) (by decide) (fun h6 => ?_) (fun h6 => ?_)
      · refine xt_iconst C 0 dX1_learn_111 (by decide +kernel) ?_
        refine lv_istore_n C.1 C.2.1 dX1_learn_112 rfl hl (by decide) rfl (fun ls hl => ?_)
        replace hl : lv_has ls 6 [(2, .int (nI 0)), (1, .int (nI (ms_sum (fun z1 => ms_sum (fun z2 => ms_sum (fun z3 => mq_lv S K n w ro z1 z2 z3) (xq_cl S K z1)) (xq_rw S z1)) a))), (0, .ref (am 0))] := hl
        have lp113 : ∀ (mq0 : Nat) (a2 : Nat) (w1 : Nat → Nat), 3 - a2 = mq0 → (a2 ≤ 3) → (∀ z1 z2 z3, xq_kr S K z1 z2 z3 → mq_or z1 z2 z3 a2 0 0 → w1 (mq_sl z1 z2 z3) = mq_lv S K n w ro z1 z2 z3) → (∀ z1, z1 < 24 → w1 z1 ≤ 9) → ∀ (ls : Array Slot) (H : Heap) (locs : List Loc), lv_has ls 6 [(2, .int (nI a2)), (1, .int (nI (mq_lsm S K n w ro))), (0, .ref (am 0))] → xt_W D A ss.heap (xM am cI cL S K n iz dz tv bv w1 ro wv ch al fv) H locs → W pg l ev (xt_R 4) ss mi args below meth cd H locs 0 0 Q (F0 mi 113 ls []) := by
          intro mq0
          induction mq0 using Nat.strongRecOn with
          | _ mq0 ih113 =>
            intro a2 w1 hq113 ha2 k1 k1b ls H locs hl hW
            refine lv_iload_n C.1 C.2.1 dX1_learn_113 rfl (lv_at hl 0 rfl) ?_
            refine xt_iconst C 3 dX1_learn_114 (by decide +kernel) ?_
            refine xt_icmp_ge C (by omega) (by omega) dX1_learn_115 (tgt := 193) (by decide) (fun h115 => ?_) (fun h115 => ?_)
            · refine lv_iload_n C.1 C.2.1 dX1_learn_193 rfl (lv_at hl 1 rfl) ?_
              exact xt_iret C hE (w1, wv, tv, bv, fv) hW (⟨rfl, fun z1 z2 z3 hz => k1 z1 z2 z3 hz (mq_o3 hz (by omega)), k1b⟩) dX1_learn_194
            · refine xt_iconst C 0 dX1_learn_118 (by decide +kernel) ?_
              refine lv_istore_n C.1 C.2.1 dX1_learn_119 rfl hl (by decide) rfl (fun ls hl => ?_)
              replace hl : lv_has ls 6 [(3, .int (nI 0)), (2, .int (nI a2)), (1, .int (nI (mq_lsm S K n w ro))), (0, .ref (am 0))] := hl
              have lp120 : ∀ (mq0 : Nat) (b2 : Nat) (w2 : Nat → Nat), xq_rw S a2 - b2 = mq0 → (b2 ≤ xq_rw S a2) → (∀ z1 z2 z3, xq_kr S K z1 z2 z3 → mq_or z1 z2 z3 a2 b2 0 → w2 (mq_sl z1 z2 z3) = mq_lv S K n w ro z1 z2 z3) → (∀ z1, z1 < 24 → w2 z1 ≤ 9) → ∀ (ls : Array Slot) (H : Heap) (locs : List Loc), lv_has ls 6 [(3, .int (nI b2)), (2, .int (nI a2)), (1, .int (nI (mq_lsm S K n w ro))), (0, .ref (am 0))] → xt_W D A ss.heap (xM am cI cL S K n iz dz tv bv w2 ro wv ch al fv) H locs → W pg l ev (xt_R 4) ss mi args below meth cd H locs 0 0 Q (F0 mi 120 ls []) := by
                intro mq0
                induction mq0 using Nat.strongRecOn with
                | _ mq0 ih120 =>
                  intro b2 w2 hq120 hb2 k2 k2b ls H locs hl hW
                  have hrwf2 := mq_rwf S a2
                  refine lv_iload_n C.1 C.2.1 dX1_learn_120 rfl (lv_at hl 0 rfl) ?_
                  refine lv_aload_n C.1 C.2.1 dX1_learn_121 rfl (lv_at hl 3 rfl) ?_
                  refine xt_get xt_inX1 C hW 0 rfl rfl 0 (by decide) rfl flX1_states rfl dX1_learn_122 ?_
                  refine xt_icmp_ge C (by omega) (by omega) dX1_learn_125 (tgt := 187) (by decide) (fun h125 => ?_) (fun h125 => ?_)
                  · refine lv_iinc (k := 1) C.1 C.2.1 dX1_learn_187 hl rfl xt_inc (by decide) rfl (fun ls hl => ?_)
                    replace hl : lv_has ls 6 [(2, .int (nI (a2 + 1))), (3, .int (nI b2)), (1, .int (nI (mq_lsm S K n w ro))), (0, .ref (am 0))] := hl
                    refine lv_goto C.1 C.2.1 dX1_learn_190 (tgt := 113) (by decide) ?_
                    exact ih113 _ (by omega) (a2 + 1) w2 rfl (by omega) (fun z1 z2 z3 hz ho => k2 z1 z2 z3 hz (mq_ob hz (by omega) ho)) (k2b) ls _ _ (lv_sub hl [0, 2, 3] rfl) hW
                  · refine lv_iload_n C.1 C.2.1 dX1_learn_128 rfl (lv_at hl 1 rfl) ?_
                    refine xt_if_gt C (by omega) dX1_learn_129 (tgt := 136) (by decide) (fun h129 => ?_) (fun h129 => ?_)
                    · refine xt_iconst C 0 dX1_learn_136 (by decide +kernel) ?_
                      refine lv_istore C.1 C.2.1 dX1_learn_137 hl (by decide) rfl (fun ls hl => ?_)
                      replace hl : lv_has ls 6 [(4, .int (nI 0)), (3, .int (nI b2)), (2, .int (nI a2)), (1, .int (nI (mq_lsm S K n w ro))), (0, .ref (am 0))] := hl
                      have lp139 : ∀ (mq0 : Nat) (c2 : Nat) (w3 : Nat → Nat), xq_cl S K a2 - c2 = mq0 → (c2 ≤ xq_cl S K a2) → (∀ z1 z2 z3, xq_kr S K z1 z2 z3 → mq_or z1 z2 z3 a2 b2 c2 → w3 (mq_sl z1 z2 z3) = mq_lv S K n w ro z1 z2 z3) → (∀ z1, z1 < 24 → w3 z1 ≤ 9) → ∀ (ls : Array Slot) (H : Heap) (locs : List Loc), lv_has ls 6 [(4, .int (nI c2)), (3, .int (nI b2)), (2, .int (nI a2)), (1, .int (nI (mq_lsm S K n w ro))), (0, .ref (am 0))] → xt_W D A ss.heap (xM am cI cL S K n iz dz tv bv w3 ro wv ch al fv) H locs → W pg l ev (xt_R 4) ss mi args below meth cd H locs 0 0 Q (F0 mi 139 ls []) := by
                        intro mq0
                        induction mq0 using Nat.strongRecOn with
                        | _ mq0 ih139 =>
                          intro c2 w3 hq139 hc2 k3 k3b ls H locs hl hW
                          have hcb2 := xq_clb (a := a2) hS3 hK4
                          refine lv_iload C.1 C.2.1 dX1_learn_139 (lv_at hl 0 rfl) ?_
                          refine lv_aload_n C.1 C.2.1 dX1_learn_141 rfl (lv_at hl 4 rfl) ?_
                          refine lv_iload_n C.1 C.2.1 dX1_learn_142 rfl (lv_at hl 2 rfl) ?_
                          refine xt_ci hA hW (xt_runV C hW.1 hW.2.1 cwX1_X1_columns (cm_columns l D cI cL am S K n iz dz tv bv w3 ro wv ch al fv a2 (by omega)) rfl rfl rfl hl.1 (rest := [.int (nI c2)]) rfl (Nat.le_of_ble_eq_true rfl) ⟨(Nat.le_of_ble_eq_true rfl), (Nat.le_of_ble_eq_true rfl)⟩ ⟨Nat.zero_le _, Nat.zero_le _⟩ dX1_learn_143) (fun r143 u H locs hp143 hW => ?_)
                          replace hW : xt_W D A ss.heap (xM am cI cL S K n iz dz tv bv w3 ro wv ch al fv) H locs := hW
                          subst hp143
                          refine xt_icmp_ge C (by omega) (by omega) dX1_learn_146 (tgt := 181) (by decide) (fun h146 => ?_) (fun h146 => ?_)
                          · refine lv_iinc (k := 1) C.1 C.2.1 dX1_learn_181 hl rfl xt_inc (by decide) rfl (fun ls hl => ?_)
                            replace hl : lv_has ls 6 [(3, .int (nI (b2 + 1))), (4, .int (nI c2)), (2, .int (nI a2)), (1, .int (nI (mq_lsm S K n w ro))), (0, .ref (am 0))] := hl
                            refine lv_goto C.1 C.2.1 dX1_learn_184 (tgt := 120) (by decide) ?_
                            exact ih120 _ (by omega) (b2 + 1) w3 rfl (by omega) (fun z1 z2 z3 hz ho => k3 z1 z2 z3 hz (mq_oc hz (by omega) ho)) (k3b) ls _ _ (lv_sub hl [0, 2, 3, 4] rfl) hW
                          · have hk2 := xq_krc (S := S) (K := K) (a := a2) (b := b2) (c := c2) (by omega) (by omega) (by omega)
                            have hslb2 := mq_slb hS3 hK4 hk2
                            refine lv_aload_n C.1 C.2.1 dX1_learn_149 rfl (lv_at hl 4 rfl) ?_
                            refine xt_get xt_inX1 C hW 0 rfl rfl 2 (by decide) rfl flX1_weights rfl dX1_learn_150 ?_
                            refine lv_aload_n C.1 C.2.1 dX1_learn_153 rfl (lv_at hl 4 rfl) ?_
                            refine lv_iload_n C.1 C.2.1 dX1_learn_154 rfl (lv_at hl 2 rfl) ?_
                            refine lv_iload_n C.1 C.2.1 dX1_learn_155 rfl (lv_at hl 1 rfl) ?_
                            refine lv_iload C.1 C.2.1 dX1_learn_156 (lv_at hl 0 rfl) ?_
                            refine xt_ci hA hW (xt_runV C hW.1 hW.2.1 cwX1_X1_slot (cm_slot_y l D cI cL am S K n iz dz tv bv w3 ro wv ch al fv a2 b2 c2 (by omega) (by omega) (hk2)) rfl rfl rfl hl.1 (rest := [.ref (am 1)]) rfl (Nat.le_of_ble_eq_true rfl) ⟨(Nat.le_of_ble_eq_true rfl), (Nat.le_of_ble_eq_true rfl)⟩ ⟨Nat.zero_le _, Nat.zero_le _⟩ dX1_learn_158) (fun r158 u H locs hp158 hW => ?_)
                            replace hW : xt_W D A ss.heap (xM am cI cL S K n iz dz tv bv w3 ro wv ch al fv) H locs := hW
                            subst hp158
                            refine lv_aload_n C.1 C.2.1 dX1_learn_161 rfl (lv_at hl 4 rfl) ?_
                            refine xt_get xt_inX1 C hW 0 rfl rfl 10 (by decide) rfl flX1_fresh rfl dX1_learn_162 ?_
                            refine lv_aload_n C.1 C.2.1 dX1_learn_165 rfl (lv_at hl 4 rfl) ?_
                            refine lv_iload_n C.1 C.2.1 dX1_learn_166 rfl (lv_at hl 2 rfl) ?_
                            refine lv_iload_n C.1 C.2.1 dX1_learn_167 rfl (lv_at hl 1 rfl) ?_
                            refine W.eq (g2 := F0 mi 168 ls [.int (nI b2), .int (nI a2), .ref (am 0), .ref (am 6), .int (nI (mq_sl a2 b2 c2)), .ref (am 1)]) rfl ?_
                            refine lv_iload C.1 C.2.1 dX1_learn_168 (lv_at hl 0 rfl) ?_
                            refine xt_ci hA hW (xt_runV C hW.1 hW.2.1 cwX1_X1_slot (cm_slot_y l D cI cL am S K n iz dz tv bv w3 ro wv ch al fv a2 b2 c2 (by omega) (by omega) (hk2)) rfl rfl rfl hl.1 (rest := [.ref (am 6), .int (nI (mq_sl a2 b2 c2)), .ref (am 1)]) rfl (Nat.le_of_ble_eq_true rfl) ⟨(Nat.le_of_ble_eq_true rfl), (Nat.le_of_ble_eq_true rfl)⟩ ⟨Nat.zero_le _, Nat.zero_le _⟩ dX1_learn_170) (fun r170 u H locs hp170 hW => ?_)
                            replace hW : xt_W D A ss.heap (xM am cI cL S K n iz dz tv bv w3 ro wv ch al fv) H locs := hW
                            subst hp170
                            refine xt_iald C hW 6 rfl (by decide) dX1_learn_173 (by omega) ?_
                            refine xt_iast C hW 1 rfl (by decide) dX1_learn_174 (by omega) (fun H locs hW => ?_)
                            replace hW : xt_W D A ss.heap (xM am cI cL S K n iz dz tv bv (va_up w3 (mq_sl a2 b2 c2) (fv (mq_sl a2 b2 c2))) ro wv ch al fv) H locs := hW
                            refine lv_iinc (k := 0) C.1 C.2.1 dX1_learn_175 hl rfl xt_inc (by decide) rfl (fun ls hl => ?_)
                            replace hl : lv_has ls 6 [(4, .int (nI (c2 + 1))), (3, .int (nI b2)), (2, .int (nI a2)), (1, .int (nI (mq_lsm S K n w ro))), (0, .ref (am 0))] := hl
                            refine lv_goto C.1 C.2.1 dX1_learn_178 (tgt := 139) (by decide) ?_
                            exact ih139 _ (by omega) (c2 + 1) (va_up w3 (mq_sl a2 b2 c2) (fv (mq_sl a2 b2 c2))) rfl (by omega) (mq_put hS3 hK4 hk2 (g1 a2 b2 c2 hk2 (mq_o3 hk2 (by omega))) k3) (xq_upb k3b (by rw [g1 a2 b2 c2 hk2 (mq_o3 hk2 (by omega))]; exact mq_lvb (by omega))) ls _ _ (lv_sub hl [0, 1, 2, 3, 4] rfl) hW
                      exact lp139 _ 0 w2 rfl (Nat.zero_le _) (k2) (k2b) ls _ _ (lv_sub hl [0, 1, 2, 3, 4] rfl) hW
                    · refine lv_iload_n C.1 C.2.1 dX1_learn_132 rfl (lv_at hl 0 rfl) ?_
                      refine xt_if_ne C (by omega) dX1_learn_133 (tgt := 187) (by decide) (fun h133 => ?_) (fun h133 => ?_)
                      · refine lv_iinc (k := 1) C.1 C.2.1 dX1_learn_187 hl rfl xt_inc (by decide) rfl (fun ls hl => ?_)
                        replace hl : lv_has ls 6 [(2, .int (nI (a2 + 1))), (3, .int (nI b2)), (1, .int (nI (mq_lsm S K n w ro))), (0, .ref (am 0))] := hl
                        refine lv_goto C.1 C.2.1 dX1_learn_190 (tgt := 113) (by decide) ?_
                        exact ih113 _ (by omega) (a2 + 1) w2 rfl (by omega) (fun z1 z2 z3 hz ho => k2 z1 z2 z3 hz (mq_ob hz (by omega) ho)) (k2b) ls _ _ (lv_sub hl [0, 2, 3] rfl) hW
                      · refine xt_iconst C 0 dX1_learn_136 (by decide +kernel) ?_
                        refine lv_istore C.1 C.2.1 dX1_learn_137 hl (by decide) rfl (fun ls hl => ?_)
                        replace hl : lv_has ls 6 [(4, .int (nI 0)), (3, .int (nI b2)), (2, .int (nI a2)), (1, .int (nI (mq_lsm S K n w ro))), (0, .ref (am 0))] := hl
                        have lp139 : ∀ (mq0 : Nat) (c2 : Nat) (w3 : Nat → Nat), xq_cl S K a2 - c2 = mq0 → (c2 ≤ xq_cl S K a2) → (∀ z1 z2 z3, xq_kr S K z1 z2 z3 → mq_or z1 z2 z3 a2 b2 c2 → w3 (mq_sl z1 z2 z3) = mq_lv S K n w ro z1 z2 z3) → (∀ z1, z1 < 24 → w3 z1 ≤ 9) → ∀ (ls : Array Slot) (H : Heap) (locs : List Loc), lv_has ls 6 [(4, .int (nI c2)), (3, .int (nI b2)), (2, .int (nI a2)), (1, .int (nI (mq_lsm S K n w ro))), (0, .ref (am 0))] → xt_W D A ss.heap (xM am cI cL S K n iz dz tv bv w3 ro wv ch al fv) H locs → W pg l ev (xt_R 4) ss mi args below meth cd H locs 0 0 Q (F0 mi 139 ls []) := by
                          intro mq0
                          induction mq0 using Nat.strongRecOn with
                          | _ mq0 ih139 =>
                            intro c2 w3 hq139 hc2 k3 k3b ls H locs hl hW
                            have hcb2 := xq_clb (a := a2) hS3 hK4
                            refine lv_iload C.1 C.2.1 dX1_learn_139 (lv_at hl 0 rfl) ?_
                            refine lv_aload_n C.1 C.2.1 dX1_learn_141 rfl (lv_at hl 4 rfl) ?_
                            refine lv_iload_n C.1 C.2.1 dX1_learn_142 rfl (lv_at hl 2 rfl) ?_
                            refine xt_ci hA hW (xt_runV C hW.1 hW.2.1 cwX1_X1_columns (cm_columns l D cI cL am S K n iz dz tv bv w3 ro wv ch al fv a2 (by omega)) rfl rfl rfl hl.1 (rest := [.int (nI c2)]) rfl (Nat.le_of_ble_eq_true rfl) ⟨(Nat.le_of_ble_eq_true rfl), (Nat.le_of_ble_eq_true rfl)⟩ ⟨Nat.zero_le _, Nat.zero_le _⟩ dX1_learn_143) (fun r143 u H locs hp143 hW => ?_)
                            replace hW : xt_W D A ss.heap (xM am cI cL S K n iz dz tv bv w3 ro wv ch al fv) H locs := hW
                            subst hp143
                            refine xt_icmp_ge C (by omega) (by omega) dX1_learn_146 (tgt := 181) (by decide) (fun h146 => ?_) (fun h146 => ?_)
                            · refine lv_iinc (k := 1) C.1 C.2.1 dX1_learn_181 hl rfl xt_inc (by decide) rfl (fun ls hl => ?_)
                              replace hl : lv_has ls 6 [(3, .int (nI (b2 + 1))), (4, .int (nI c2)), (2, .int (nI a2)), (1, .int (nI (mq_lsm S K n w ro))), (0, .ref (am 0))] := hl
                              refine lv_goto C.1 C.2.1 dX1_learn_184 (tgt := 120) (by decide) ?_
                              exact ih120 _ (by omega) (b2 + 1) w3 rfl (by omega) (fun z1 z2 z3 hz ho => k3 z1 z2 z3 hz (mq_oc hz (by omega) ho)) (k3b) ls _ _ (lv_sub hl [0, 2, 3, 4] rfl) hW
                            · have hk2 := xq_krc (S := S) (K := K) (a := a2) (b := b2) (c := c2) (by omega) (by omega) (by omega)
                              have hslb2 := mq_slb hS3 hK4 hk2
                              refine lv_aload_n C.1 C.2.1 dX1_learn_149 rfl (lv_at hl 4 rfl) ?_
                              refine xt_get xt_inX1 C hW 0 rfl rfl 2 (by decide) rfl flX1_weights rfl dX1_learn_150 ?_
                              refine lv_aload_n C.1 C.2.1 dX1_learn_153 rfl (lv_at hl 4 rfl) ?_
                              refine lv_iload_n C.1 C.2.1 dX1_learn_154 rfl (lv_at hl 2 rfl) ?_
                              refine lv_iload_n C.1 C.2.1 dX1_learn_155 rfl (lv_at hl 1 rfl) ?_
                              refine lv_iload C.1 C.2.1 dX1_learn_156 (lv_at hl 0 rfl) ?_
                              refine xt_ci hA hW (xt_runV C hW.1 hW.2.1 cwX1_X1_slot (cm_slot_y l D cI cL am S K n iz dz tv bv w3 ro wv ch al fv a2 b2 c2 (by omega) (by omega) (hk2)) rfl rfl rfl hl.1 (rest := [.ref (am 1)]) rfl (Nat.le_of_ble_eq_true rfl) ⟨(Nat.le_of_ble_eq_true rfl), (Nat.le_of_ble_eq_true rfl)⟩ ⟨Nat.zero_le _, Nat.zero_le _⟩ dX1_learn_158) (fun r158 u H locs hp158 hW => ?_)
                              replace hW : xt_W D A ss.heap (xM am cI cL S K n iz dz tv bv w3 ro wv ch al fv) H locs := hW
                              subst hp158
                              refine lv_aload_n C.1 C.2.1 dX1_learn_161 rfl (lv_at hl 4 rfl) ?_
                              refine xt_get xt_inX1 C hW 0 rfl rfl 10 (by decide) rfl flX1_fresh rfl dX1_learn_162 ?_
                              refine lv_aload_n C.1 C.2.1 dX1_learn_165 rfl (lv_at hl 4 rfl) ?_
                              refine lv_iload_n C.1 C.2.1 dX1_learn_166 rfl (lv_at hl 2 rfl) ?_
                              refine lv_iload_n C.1 C.2.1 dX1_learn_167 rfl (lv_at hl 1 rfl) ?_
                              refine W.eq (g2 := F0 mi 168 ls [.int (nI b2), .int (nI a2), .ref (am 0), .ref (am 6), .int (nI (mq_sl a2 b2 c2)), .ref (am 1)]) rfl ?_
                              refine lv_iload C.1 C.2.1 dX1_learn_168 (lv_at hl 0 rfl) ?_
                              refine xt_ci hA hW (xt_runV C hW.1 hW.2.1 cwX1_X1_slot (cm_slot_y l D cI cL am S K n iz dz tv bv w3 ro wv ch al fv a2 b2 c2 (by omega) (by omega) (hk2)) rfl rfl rfl hl.1 (rest := [.ref (am 6), .int (nI (mq_sl a2 b2 c2)), .ref (am 1)]) rfl (Nat.le_of_ble_eq_true rfl) ⟨(Nat.le_of_ble_eq_true rfl), (Nat.le_of_ble_eq_true rfl)⟩ ⟨Nat.zero_le _, Nat.zero_le _⟩ dX1_learn_170) (fun r170 u H locs hp170 hW => ?_)
                              replace hW : xt_W D A ss.heap (xM am cI cL S K n iz dz tv bv w3 ro wv ch al fv) H locs := hW
                              subst hp170
                              refine xt_iald C hW 6 rfl (by decide) dX1_learn_173 (by omega) ?_
                              refine xt_iast C hW 1 rfl (by decide) dX1_learn_174 (by omega) (fun H locs hW => ?_)
                              replace hW : xt_W D A ss.heap (xM am cI cL S K n iz dz tv bv (va_up w3 (mq_sl a2 b2 c2) (fv (mq_sl a2 b2 c2))) ro wv ch al fv) H locs := hW
                              refine lv_iinc (k := 0) C.1 C.2.1 dX1_learn_175 hl rfl xt_inc (by decide) rfl (fun ls hl => ?_)
                              replace hl : lv_has ls 6 [(4, .int (nI (c2 + 1))), (3, .int (nI b2)), (2, .int (nI a2)), (1, .int (nI (mq_lsm S K n w ro))), (0, .ref (am 0))] := hl
                              refine lv_goto C.1 C.2.1 dX1_learn_178 (tgt := 139) (by decide) ?_
                              exact ih139 _ (by omega) (c2 + 1) (va_up w3 (mq_sl a2 b2 c2) (fv (mq_sl a2 b2 c2))) rfl (by omega) (mq_put hS3 hK4 hk2 (g1 a2 b2 c2 hk2 (mq_o3 hk2 (by omega))) k3) (xq_upb k3b (by rw [g1 a2 b2 c2 hk2 (mq_o3 hk2 (by omega))]; exact mq_lvb (by omega))) ls _ _ (lv_sub hl [0, 1, 2, 3, 4] rfl) hW
                        exact lp139 _ 0 w2 rfl (Nat.zero_le _) (k2) (k2b) ls _ _ (lv_sub hl [0, 1, 2, 3, 4] rfl) hW
              exact lp120 _ 0 w1 rfl (Nat.zero_le _) (k1) (k1b) ls _ _ (lv_sub hl [0, 1, 2, 3] rfl) hW
        exact lp113 _ 0 w rfl (Nat.zero_le _) (fun z1 z2 z3 _ h => (mq_o0 h).elim) (hw) ls _ _ (lv_sub hl [0, 1, 2] (by rw [show a = 3 by omega]; rfl)) hW
      · refine xt_iconst C 0 dX1_learn_9 (by decide +kernel) ?_
        refine lv_istore_n C.1 C.2.1 dX1_learn_10 rfl hl (by decide) rfl (fun ls hl => ?_)
        replace hl : lv_has ls 6 [(3, .int (nI 0)), (2, .int (nI a)), (1, .int (nI (ms_sum (fun z1 => ms_sum (fun z2 => ms_sum (fun z3 => mq_lv S K n w ro z1 z2 z3) (xq_cl S K z1)) (xq_rw S z1)) a))), (0, .ref (am 0))] := hl
        have lp11 : ∀ (mq0 : Nat) (b : Nat) (fv2 : Nat → Nat) (wv2 : Nat → Nat) (tv2 : Nat) (bv2 : Nat), xq_rw S a - b = mq0 → (b ≤ xq_rw S a) → (∀ z1 z2 z3, xq_kr S K z1 z2 z3 → mq_or z1 z2 z3 a b 0 → fv2 (mq_sl z1 z2 z3) = mq_lv S K n w ro z1 z2 z3) → ∀ (ls : Array Slot) (H : Heap) (locs : List Loc), lv_has ls 6 [(3, .int (nI b)), (2, .int (nI a)), (1, .int (nI (ms_sum (fun z1 => ms_sum (fun z2 => ms_sum (fun z3 => mq_lv S K n w ro z1 z2 z3) (xq_cl S K z1)) (xq_rw S z1)) a + ms_sum (fun z2 => ms_sum (fun z3 => mq_lv S K n w ro a z2 z3) (xq_cl S K a)) b))), (0, .ref (am 0))] → xt_W D A ss.heap (xM am cI cL S K n iz dz tv2 bv2 w ro wv2 ch al fv2) H locs → W pg l ev (xt_R 4) ss mi args below meth cd H locs 0 0 Q (F0 mi 11 ls []) := by
          intro mq0
          induction mq0 using Nat.strongRecOn with
          | _ mq0 ih11 =>
            intro b fv2 wv2 tv2 bv2 hq11 hb g2 ls H locs hl hW
            have hrwf := mq_rwf S a
            refine lv_iload_n C.1 C.2.1 dX1_learn_11 rfl (lv_at hl 0 rfl) ?_
            refine lv_aload_n C.1 C.2.1 dX1_learn_12 rfl (lv_at hl 3 rfl) ?_
            refine xt_get xt_inX1 C hW 0 rfl rfl 0 (by decide) rfl flX1_states rfl dX1_learn_13 ?_
            refine xt_icmp_ge C (by omega) (by omega) dX1_learn_16 (tgt := 105) (by decide) (fun h16 => ?_) (fun h16 => ?_)
            · refine lv_iinc (k := 1) C.1 C.2.1 dX1_learn_105 hl rfl xt_inc (by decide) rfl (fun ls hl => ?_)
              replace hl : lv_has ls 6 [(2, .int (nI (a + 1))), (3, .int (nI b)), (1, .int (nI (ms_sum (fun z1 => ms_sum (fun z2 => ms_sum (fun z3 => mq_lv S K n w ro z1 z2 z3) (xq_cl S K z1)) (xq_rw S z1)) a + ms_sum (fun z2 => ms_sum (fun z3 => mq_lv S K n w ro a z2 z3) (xq_cl S K a)) b))), (0, .ref (am 0))] := hl
              refine lv_goto C.1 C.2.1 dX1_learn_108 (tgt := 4) (by decide) ?_
              rw [show b = xq_rw S a by omega] at hl
              replace hl : lv_has ls 6 [(2, .int (nI (a + 1))), (3, .int (nI (xq_rw S a))), (1, .int (nI (ms_sum (fun z1 => ms_sum (fun z2 => ms_sum (fun z3 => mq_lv S K n w ro z1 z2 z3) (xq_cl S K z1)) (xq_rw S z1)) (a + 1)))), (0, .ref (am 0))] := hl
              exact ih4 _ (by omega) (a + 1) fv2 wv2 tv2 bv2 rfl (by omega) (fun z1 z2 z3 hz ho => g2 z1 z2 z3 hz (mq_ob hz (by omega) ho)) ls _ _ (lv_sub hl [0, 2, 3] rfl) hW
            · refine lv_iload_n C.1 C.2.1 dX1_learn_19 rfl (lv_at hl 1 rfl) ?_
              refine xt_if_gt C (by omega) dX1_learn_20 (tgt := 27) (by decide) (fun h20 => ?_) (fun h20 => ?_)
              · refine xt_iconst C 0 dX1_learn_27 (by decide +kernel) ?_
                refine lv_istore C.1 C.2.1 dX1_learn_28 hl (by decide) rfl (fun ls hl => ?_)
                replace hl : lv_has ls 6 [(4, .int (nI 0)), (3, .int (nI b)), (2, .int (nI a)), (1, .int (nI (ms_sum (fun z1 => ms_sum (fun z2 => ms_sum (fun z3 => mq_lv S K n w ro z1 z2 z3) (xq_cl S K z1)) (xq_rw S z1)) a + ms_sum (fun z2 => ms_sum (fun z3 => mq_lv S K n w ro a z2 z3) (xq_cl S K a)) b))), (0, .ref (am 0))] := hl
                have lp30 : ∀ (mq0 : Nat) (c : Nat) (fv3 : Nat → Nat) (wv3 : Nat → Nat) (tv3 : Nat) (bv3 : Nat), xq_cl S K a - c = mq0 → (c ≤ xq_cl S K a) → (∀ z1 z2 z3, xq_kr S K z1 z2 z3 → mq_or z1 z2 z3 a b c → fv3 (mq_sl z1 z2 z3) = mq_lv S K n w ro z1 z2 z3) → ∀ (ls : Array Slot) (H : Heap) (locs : List Loc), lv_has ls 6 [(4, .int (nI c)), (3, .int (nI b)), (2, .int (nI a)), (1, .int (nI (ms_sum (fun z1 => ms_sum (fun z2 => ms_sum (fun z3 => mq_lv S K n w ro z1 z2 z3) (xq_cl S K z1)) (xq_rw S z1)) a + ms_sum (fun z2 => ms_sum (fun z3 => mq_lv S K n w ro a z2 z3) (xq_cl S K a)) b + ms_sum (fun z3 => mq_lv S K n w ro a b z3) c))), (0, .ref (am 0))] → xt_W D A ss.heap (xM am cI cL S K n iz dz tv3 bv3 w ro wv3 ch al fv3) H locs → W pg l ev (xt_R 4) ss mi args below meth cd H locs 0 0 Q (F0 mi 30 ls []) := by
                  intro mq0
                  induction mq0 using Nat.strongRecOn with
                  | _ mq0 ih30 =>
                    intro c fv3 wv3 tv3 bv3 hq30 hc g3 ls H locs hl hW
                    have hcb := xq_clb (a := a) hS3 hK4
                    refine lv_iload C.1 C.2.1 dX1_learn_30 (lv_at hl 0 rfl) ?_
                    refine lv_aload_n C.1 C.2.1 dX1_learn_32 rfl (lv_at hl 4 rfl) ?_
                    refine lv_iload_n C.1 C.2.1 dX1_learn_33 rfl (lv_at hl 2 rfl) ?_
                    refine xt_ci hA hW (xt_runV C hW.1 hW.2.1 cwX1_X1_columns (cm_columns l D cI cL am S K n iz dz tv3 bv3 w ro wv3 ch al fv3 a (by omega)) rfl rfl rfl hl.1 (rest := [.int (nI c)]) rfl (Nat.le_of_ble_eq_true rfl) ⟨(Nat.le_of_ble_eq_true rfl), (Nat.le_of_ble_eq_true rfl)⟩ ⟨Nat.zero_le _, Nat.zero_le _⟩ dX1_learn_34) (fun r34 u H locs hp34 hW => ?_)
                    replace hW : xt_W D A ss.heap (xM am cI cL S K n iz dz tv3 bv3 w ro wv3 ch al fv3) H locs := hW
                    subst hp34
                    refine xt_icmp_ge C (by omega) (by omega) dX1_learn_37 (tgt := 99) (by decide) (fun h37 => ?_) (fun h37 => ?_)
                    · refine lv_iinc (k := 1) C.1 C.2.1 dX1_learn_99 hl rfl xt_inc (by decide) rfl (fun ls hl => ?_)
                      replace hl : lv_has ls 6 [(3, .int (nI (b + 1))), (4, .int (nI c)), (2, .int (nI a)), (1, .int (nI (ms_sum (fun z1 => ms_sum (fun z2 => ms_sum (fun z3 => mq_lv S K n w ro z1 z2 z3) (xq_cl S K z1)) (xq_rw S z1)) a + ms_sum (fun z2 => ms_sum (fun z3 => mq_lv S K n w ro a z2 z3) (xq_cl S K a)) b + ms_sum (fun z3 => mq_lv S K n w ro a b z3) c))), (0, .ref (am 0))] := hl
                      refine lv_goto C.1 C.2.1 dX1_learn_102 (tgt := 11) (by decide) ?_
                      rw [show c = xq_cl S K a by omega, Nat.add_assoc] at hl
                      replace hl : lv_has ls 6 [(3, .int (nI (b + 1))), (4, .int (nI (xq_cl S K a))), (2, .int (nI a)), (1, .int (nI (ms_sum (fun z1 => ms_sum (fun z2 => ms_sum (fun z3 => mq_lv S K n w ro z1 z2 z3) (xq_cl S K z1)) (xq_rw S z1)) a + ms_sum (fun z2 => ms_sum (fun z3 => mq_lv S K n w ro a z2 z3) (xq_cl S K a)) (b + 1)))), (0, .ref (am 0))] := hl
                      exact ih11 _ (by omega) (b + 1) fv3 wv3 tv3 bv3 rfl (by omega) (fun z1 z2 z3 hz ho => g3 z1 z2 z3 hz (mq_oc hz (by omega) ho)) ls _ _ (lv_sub hl [0, 2, 3, 4] rfl) hW
                    · have hk := xq_krc (S := S) (K := K) (a := a) (b := b) (c := c) (by omega) (by omega) (by omega)
                      have hslb := mq_slb hS3 hK4 hk
                      have hpo := mq_pow (S := S) (K := K) (n := n) (w := w) (ro := ro) (a := a) (b := b) (c := c) (by omega)
                      have hwhb := mq_whb (n := n) (K := K) (a := a) (b := b) hS0 hS3 hK4 hn6 hw hsy (by omega) (by omega)
                      have htob := mq_topb (x := mq_po S K n w ro a b c) (y := mq_wh S K n w ro a b)
                      have hbob := mq_botb hpo
                      refine lv_aload_n C.1 C.2.1 dX1_learn_40 rfl (lv_at hl 4 rfl) ?_
                      refine lv_iload_n C.1 C.2.1 dX1_learn_41 rfl (lv_at hl 2 rfl) ?_
                      refine lv_iload_n C.1 C.2.1 dX1_learn_42 rfl (lv_at hl 1 rfl) ?_
                      refine lv_iload C.1 C.2.1 dX1_learn_43 (lv_at hl 0 rfl) ?_
                      refine xt_cvd hA hW (xt_runV C hW.1 hW.2.1 cwX1_X1_learnOne (cm_learnOne l D cI cL am S K n iz dz tv3 bv3 w ro wv3 ch al fv3 a b c (hV2) (hk)) rfl rfl rfl hl.1 (rest := []) rfl (Nat.le_of_ble_eq_true rfl) ⟨(Nat.le_of_ble_eq_true rfl), (Nat.le_of_ble_eq_true rfl)⟩ ⟨Nat.zero_le _, Nat.zero_le _⟩ dX1_learn_45) (fun u H locs hp45 hW => ?_)
                      obtain ⟨wa_45, tp_45, bt_45⟩ := u
                      replace hW : xt_W D A ss.heap (xM am cI cL S K n iz dz tp_45 bt_45 w ro wa_45 ch al fv3) H locs := hW
                      replace hp45 : tp_45 = xq_top (mq_po S K n w ro a b c) (mq_wh S K n w ro a b) ∧ bt_45 = xq_bot (mq_po S K n w ro a b c) (mq_wh S K n w ro a b) := hp45
                      obtain ⟨rfl, rfl⟩ := hp45
                      replace hW : xt_W D A ss.heap (xM am cI cL S K n iz dz (xq_top (mq_po S K n w ro a b c) (mq_wh S K n w ro a b)) (xq_bot (mq_po S K n w ro a b c) (mq_wh S K n w ro a b)) w ro wa_45 ch al fv3) H locs := hW
                      refine xt_ldc2 C 18 (clX1_107) dX1_learn_48 (by decide +kernel) ?_
                      refine lv_aload_n C.1 C.2.1 dX1_learn_51 rfl (lv_at hl 4 rfl) ?_
                      refine xt_get xt_inX1 C hW 0 rfl rfl 11 (by decide) rfl flX1_top rfl dX1_learn_52 ?_
                      refine xt_lmul C dX1_learn_55 ?_
                      refine lv_aload_n C.1 C.2.1 dX1_learn_56 rfl (lv_at hl 4 rfl) ?_
                      refine xt_get xt_inX1 C hW 0 rfl rfl 12 (by decide) rfl flX1_bottom rfl dX1_learn_57 ?_
                      refine xt_ladd C dX1_learn_60 ?_
                      refine W.eq (g2 := F0 mi 61 ls [.long (lN ((18 * (xq_top (mq_po S K n w ro a b c) (mq_wh S K n w ro a b))) + (xq_bot (mq_po S K n w ro a b c) (mq_wh S K n w ro a b))))]) rfl ?_
                      refine xt_ldc2 C 2 (clX1_109) dX1_learn_61 (by decide +kernel) ?_
                      refine lv_aload_n C.1 C.2.1 dX1_learn_64 rfl (lv_at hl 4 rfl) ?_
                      refine xt_get xt_inX1 C hW 0 rfl rfl 12 (by decide) rfl flX1_bottom rfl dX1_learn_65 ?_
                      refine xt_lmul C dX1_learn_68 ?_
                      refine xt_ldiv C dX1_learn_69 (by omega) (by omega) (by omega) ?_
                      refine xt_l2i C dX1_learn_70 ?_
                      refine W.eq (g2 := F0 mi 71 ls [.int (nI (mq_lv S K n w ro a b c))]) rfl ?_
                      refine lv_istore C.1 C.2.1 dX1_learn_71 hl (by decide) rfl (fun ls hl => ?_)
                      replace hl : lv_has ls 6 [(5, .int (nI (mq_lv S K n w ro a b c))), (4, .int (nI c)), (3, .int (nI b)), (2, .int (nI a)), (1, .int (nI (ms_sum (fun z1 => ms_sum (fun z2 => ms_sum (fun z3 => mq_lv S K n w ro z1 z2 z3) (xq_cl S K z1)) (xq_rw S z1)) a + ms_sum (fun z2 => ms_sum (fun z3 => mq_lv S K n w ro a z2 z3) (xq_cl S K a)) b + ms_sum (fun z3 => mq_lv S K n w ro a b z3) c))), (0, .ref (am 0))] := hl
                      refine lv_aload_n C.1 C.2.1 dX1_learn_73 rfl (lv_at hl 5 rfl) ?_
                      refine xt_get xt_inX1 C hW 0 rfl rfl 10 (by decide) rfl flX1_fresh rfl dX1_learn_74 ?_
                      refine lv_aload_n C.1 C.2.1 dX1_learn_77 rfl (lv_at hl 5 rfl) ?_
                      refine lv_iload_n C.1 C.2.1 dX1_learn_78 rfl (lv_at hl 3 rfl) ?_
                      refine lv_iload_n C.1 C.2.1 dX1_learn_79 rfl (lv_at hl 2 rfl) ?_
                      refine W.eq (g2 := F0 mi 80 ls [.int (nI b), .int (nI a), .ref (am 0), .ref (am 6)]) rfl ?_
                      refine lv_iload C.1 C.2.1 dX1_learn_80 (lv_at hl 1 rfl) ?_
                      refine xt_ci hA hW (xt_runV C hW.1 hW.2.1 cwX1_X1_slot (cm_slot_y l D cI cL am S K n iz dz (xq_top (mq_po S K n w ro a b c) (mq_wh S K n w ro a b)) (xq_bot (mq_po S K n w ro a b c) (mq_wh S K n w ro a b)) w ro wa_45 ch al fv3 a b c (by omega) (by omega) (hk)) rfl rfl rfl hl.1 (rest := [.ref (am 6)]) rfl (Nat.le_of_ble_eq_true rfl) ⟨(Nat.le_of_ble_eq_true rfl), (Nat.le_of_ble_eq_true rfl)⟩ ⟨Nat.zero_le _, Nat.zero_le _⟩ dX1_learn_82) (fun r82 u H locs hp82 hW => ?_)
                      replace hW : xt_W D A ss.heap (xM am cI cL S K n iz dz (xq_top (mq_po S K n w ro a b c) (mq_wh S K n w ro a b)) (xq_bot (mq_po S K n w ro a b c) (mq_wh S K n w ro a b)) w ro wa_45 ch al fv3) H locs := hW
                      subst hp82
                      refine lv_iload C.1 C.2.1 dX1_learn_85 (lv_at hl 0 rfl) ?_
                      refine xt_iast C hW 6 rfl (by decide) dX1_learn_87 (by omega) (fun H locs hW => ?_)
                      replace hW : xt_W D A ss.heap (xM am cI cL S K n iz dz (xq_top (mq_po S K n w ro a b c) (mq_wh S K n w ro a b)) (xq_bot (mq_po S K n w ro a b c) (mq_wh S K n w ro a b)) w ro wa_45 ch al (va_up fv3 (mq_sl a b c) (mq_lv S K n w ro a b c))) H locs := hW
                      refine lv_iload_n C.1 C.2.1 dX1_learn_88 rfl (lv_at hl 4 rfl) ?_
                      refine lv_iload C.1 C.2.1 dX1_learn_89 (lv_at hl 0 rfl) ?_
                      refine xt_iadd C dX1_learn_91 ?_
                      refine lv_istore_n C.1 C.2.1 dX1_learn_92 rfl hl (by decide) rfl (fun ls hl => ?_)
                      replace hl : lv_has ls 6 [(1, .int (nI ((ms_sum (fun z1 => ms_sum (fun z2 => ms_sum (fun z3 => mq_lv S K n w ro z1 z2 z3) (xq_cl S K z1)) (xq_rw S z1)) a + ms_sum (fun z2 => ms_sum (fun z3 => mq_lv S K n w ro a z2 z3) (xq_cl S K a)) b + ms_sum (fun z3 => mq_lv S K n w ro a b z3) c) + (mq_lv S K n w ro a b c)))), (5, .int (nI (mq_lv S K n w ro a b c))), (4, .int (nI c)), (3, .int (nI b)), (2, .int (nI a)), (0, .ref (am 0))] := hl
                      refine lv_iinc (k := 2) C.1 C.2.1 dX1_learn_93 hl rfl xt_inc (by decide) rfl (fun ls hl => ?_)
                      replace hl : lv_has ls 6 [(4, .int (nI (c + 1))), (1, .int (nI ((ms_sum (fun z1 => ms_sum (fun z2 => ms_sum (fun z3 => mq_lv S K n w ro z1 z2 z3) (xq_cl S K z1)) (xq_rw S z1)) a + ms_sum (fun z2 => ms_sum (fun z3 => mq_lv S K n w ro a z2 z3) (xq_cl S K a)) b + ms_sum (fun z3 => mq_lv S K n w ro a b z3) c) + (mq_lv S K n w ro a b c)))), (5, .int (nI (mq_lv S K n w ro a b c))), (3, .int (nI b)), (2, .int (nI a)), (0, .ref (am 0))] := hl
                      refine lv_goto C.1 C.2.1 dX1_learn_96 (tgt := 30) (by decide) ?_
                      rw [Nat.add_assoc (ms_sum (fun z1 => ms_sum (fun z2 => ms_sum (fun z3 => mq_lv S K n w ro z1 z2 z3) (xq_cl S K z1)) (xq_rw S z1)) a + ms_sum (fun z2 => ms_sum (fun z3 => mq_lv S K n w ro a z2 z3) (xq_cl S K a)) b) (ms_sum (fun z3 => mq_lv S K n w ro a b z3) c)] at hl
                      replace hl : lv_has ls 6 [(4, .int (nI (c + 1))), (1, .int (nI (ms_sum (fun z1 => ms_sum (fun z2 => ms_sum (fun z3 => mq_lv S K n w ro z1 z2 z3) (xq_cl S K z1)) (xq_rw S z1)) a + ms_sum (fun z2 => ms_sum (fun z3 => mq_lv S K n w ro a z2 z3) (xq_cl S K a)) b + ms_sum (fun z3 => mq_lv S K n w ro a b z3) (c + 1)))), (5, .int (nI (mq_lv S K n w ro a b c))), (3, .int (nI b)), (2, .int (nI a)), (0, .ref (am 0))] := hl
                      exact ih30 _ (by omega) (c + 1) (va_up fv3 (mq_sl a b c) (mq_lv S K n w ro a b c)) wa_45 (xq_top (mq_po S K n w ro a b c) (mq_wh S K n w ro a b)) (xq_bot (mq_po S K n w ro a b c) (mq_wh S K n w ro a b)) rfl (by omega) (mq_put hS3 hK4 (xq_krc (S := S) (K := K) (a := a) (b := b) (c := c) (by omega) (by omega) (by omega)) rfl g3) ls _ _ (lv_sub hl [0, 3, 4, 1, 5] rfl) hW
                exact lp30 _ 0 fv2 wv2 tv2 bv2 rfl (Nat.zero_le _) (g2) ls _ _ (lv_sub hl [0, 1, 2, 3, 4] rfl) hW
              · refine lv_iload_n C.1 C.2.1 dX1_learn_23 rfl (lv_at hl 0 rfl) ?_
                refine xt_if_ne C (by omega) dX1_learn_24 (tgt := 105) (by decide) (fun h24 => ?_) (fun h24 => ?_)
                · refine lv_iinc (k := 1) C.1 C.2.1 dX1_learn_105 hl rfl xt_inc (by decide) rfl (fun ls hl => ?_)
                  replace hl : lv_has ls 6 [(2, .int (nI (a + 1))), (3, .int (nI b)), (1, .int (nI (ms_sum (fun z1 => ms_sum (fun z2 => ms_sum (fun z3 => mq_lv S K n w ro z1 z2 z3) (xq_cl S K z1)) (xq_rw S z1)) a + ms_sum (fun z2 => ms_sum (fun z3 => mq_lv S K n w ro a z2 z3) (xq_cl S K a)) b))), (0, .ref (am 0))] := hl
                  refine lv_goto C.1 C.2.1 dX1_learn_108 (tgt := 4) (by decide) ?_
                  rw [show b = xq_rw S a by omega] at hl
                  replace hl : lv_has ls 6 [(2, .int (nI (a + 1))), (3, .int (nI (xq_rw S a))), (1, .int (nI (ms_sum (fun z1 => ms_sum (fun z2 => ms_sum (fun z3 => mq_lv S K n w ro z1 z2 z3) (xq_cl S K z1)) (xq_rw S z1)) (a + 1)))), (0, .ref (am 0))] := hl
                  exact ih4 _ (by omega) (a + 1) fv2 wv2 tv2 bv2 rfl (by omega) (fun z1 z2 z3 hz ho => g2 z1 z2 z3 hz (mq_ob hz (by omega) ho)) ls _ _ (lv_sub hl [0, 2, 3] rfl) hW
                · refine xt_iconst C 0 dX1_learn_27 (by decide +kernel) ?_
                  refine lv_istore C.1 C.2.1 dX1_learn_28 hl (by decide) rfl (fun ls hl => ?_)
                  replace hl : lv_has ls 6 [(4, .int (nI 0)), (3, .int (nI b)), (2, .int (nI a)), (1, .int (nI (ms_sum (fun z1 => ms_sum (fun z2 => ms_sum (fun z3 => mq_lv S K n w ro z1 z2 z3) (xq_cl S K z1)) (xq_rw S z1)) a + ms_sum (fun z2 => ms_sum (fun z3 => mq_lv S K n w ro a z2 z3) (xq_cl S K a)) b))), (0, .ref (am 0))] := hl
                  have lp30 : ∀ (mq0 : Nat) (c : Nat) (fv3 : Nat → Nat) (wv3 : Nat → Nat) (tv3 : Nat) (bv3 : Nat), xq_cl S K a - c = mq0 → (c ≤ xq_cl S K a) → (∀ z1 z2 z3, xq_kr S K z1 z2 z3 → mq_or z1 z2 z3 a b c → fv3 (mq_sl z1 z2 z3) = mq_lv S K n w ro z1 z2 z3) → ∀ (ls : Array Slot) (H : Heap) (locs : List Loc), lv_has ls 6 [(4, .int (nI c)), (3, .int (nI b)), (2, .int (nI a)), (1, .int (nI (ms_sum (fun z1 => ms_sum (fun z2 => ms_sum (fun z3 => mq_lv S K n w ro z1 z2 z3) (xq_cl S K z1)) (xq_rw S z1)) a + ms_sum (fun z2 => ms_sum (fun z3 => mq_lv S K n w ro a z2 z3) (xq_cl S K a)) b + ms_sum (fun z3 => mq_lv S K n w ro a b z3) c))), (0, .ref (am 0))] → xt_W D A ss.heap (xM am cI cL S K n iz dz tv3 bv3 w ro wv3 ch al fv3) H locs → W pg l ev (xt_R 4) ss mi args below meth cd H locs 0 0 Q (F0 mi 30 ls []) := by
                    intro mq0
                    induction mq0 using Nat.strongRecOn with
                    | _ mq0 ih30 =>
                      intro c fv3 wv3 tv3 bv3 hq30 hc g3 ls H locs hl hW
                      have hcb := xq_clb (a := a) hS3 hK4
                      refine lv_iload C.1 C.2.1 dX1_learn_30 (lv_at hl 0 rfl) ?_
                      refine lv_aload_n C.1 C.2.1 dX1_learn_32 rfl (lv_at hl 4 rfl) ?_
                      refine lv_iload_n C.1 C.2.1 dX1_learn_33 rfl (lv_at hl 2 rfl) ?_
                      refine xt_ci hA hW (xt_runV C hW.1 hW.2.1 cwX1_X1_columns (cm_columns l D cI cL am S K n iz dz tv3 bv3 w ro wv3 ch al fv3 a (by omega)) rfl rfl rfl hl.1 (rest := [.int (nI c)]) rfl (Nat.le_of_ble_eq_true rfl) ⟨(Nat.le_of_ble_eq_true rfl), (Nat.le_of_ble_eq_true rfl)⟩ ⟨Nat.zero_le _, Nat.zero_le _⟩ dX1_learn_34) (fun r34 u H locs hp34 hW => ?_)
                      replace hW : xt_W D A ss.heap (xM am cI cL S K n iz dz tv3 bv3 w ro wv3 ch al fv3) H locs := hW
                      subst hp34
                      refine xt_icmp_ge C (by omega) (by omega) dX1_learn_37 (tgt := 99) (by decide) (fun h37 => ?_) (fun h37 => ?_)
                      · refine lv_iinc (k := 1) C.1 C.2.1 dX1_learn_99 hl rfl xt_inc (by decide) rfl (fun ls hl => ?_)
                        replace hl : lv_has ls 6 [(3, .int (nI (b + 1))), (4, .int (nI c)), (2, .int (nI a)), (1, .int (nI (ms_sum (fun z1 => ms_sum (fun z2 => ms_sum (fun z3 => mq_lv S K n w ro z1 z2 z3) (xq_cl S K z1)) (xq_rw S z1)) a + ms_sum (fun z2 => ms_sum (fun z3 => mq_lv S K n w ro a z2 z3) (xq_cl S K a)) b + ms_sum (fun z3 => mq_lv S K n w ro a b z3) c))), (0, .ref (am 0))] := hl
                        refine lv_goto C.1 C.2.1 dX1_learn_102 (tgt := 11) (by decide) ?_
                        rw [show c = xq_cl S K a by omega, Nat.add_assoc] at hl
                        replace hl : lv_has ls 6 [(3, .int (nI (b + 1))), (4, .int (nI (xq_cl S K a))), (2, .int (nI a)), (1, .int (nI (ms_sum (fun z1 => ms_sum (fun z2 => ms_sum (fun z3 => mq_lv S K n w ro z1 z2 z3) (xq_cl S K z1)) (xq_rw S z1)) a + ms_sum (fun z2 => ms_sum (fun z3 => mq_lv S K n w ro a z2 z3) (xq_cl S K a)) (b + 1)))), (0, .ref (am 0))] := hl
                        exact ih11 _ (by omega) (b + 1) fv3 wv3 tv3 bv3 rfl (by omega) (fun z1 z2 z3 hz ho => g3 z1 z2 z3 hz (mq_oc hz (by omega) ho)) ls _ _ (lv_sub hl [0, 2, 3, 4] rfl) hW
                      · have hk := xq_krc (S := S) (K := K) (a := a) (b := b) (c := c) (by omega) (by omega) (by omega)
                        have hslb := mq_slb hS3 hK4 hk
                        have hpo := mq_pow (S := S) (K := K) (n := n) (w := w) (ro := ro) (a := a) (b := b) (c := c) (by omega)
                        have hwhb := mq_whb (n := n) (K := K) (a := a) (b := b) hS0 hS3 hK4 hn6 hw hsy (by omega) (by omega)
                        have htob := mq_topb (x := mq_po S K n w ro a b c) (y := mq_wh S K n w ro a b)
                        have hbob := mq_botb hpo
                        refine lv_aload_n C.1 C.2.1 dX1_learn_40 rfl (lv_at hl 4 rfl) ?_
                        refine lv_iload_n C.1 C.2.1 dX1_learn_41 rfl (lv_at hl 2 rfl) ?_
                        refine lv_iload_n C.1 C.2.1 dX1_learn_42 rfl (lv_at hl 1 rfl) ?_
                        refine lv_iload C.1 C.2.1 dX1_learn_43 (lv_at hl 0 rfl) ?_
                        refine xt_cvd hA hW (xt_runV C hW.1 hW.2.1 cwX1_X1_learnOne (cm_learnOne l D cI cL am S K n iz dz tv3 bv3 w ro wv3 ch al fv3 a b c (hV2) (hk)) rfl rfl rfl hl.1 (rest := []) rfl (Nat.le_of_ble_eq_true rfl) ⟨(Nat.le_of_ble_eq_true rfl), (Nat.le_of_ble_eq_true rfl)⟩ ⟨Nat.zero_le _, Nat.zero_le _⟩ dX1_learn_45) (fun u H locs hp45 hW => ?_)
                        obtain ⟨wa_45, tp_45, bt_45⟩ := u
                        replace hW : xt_W D A ss.heap (xM am cI cL S K n iz dz tp_45 bt_45 w ro wa_45 ch al fv3) H locs := hW
                        replace hp45 : tp_45 = xq_top (mq_po S K n w ro a b c) (mq_wh S K n w ro a b) ∧ bt_45 = xq_bot (mq_po S K n w ro a b c) (mq_wh S K n w ro a b) := hp45
                        obtain ⟨rfl, rfl⟩ := hp45
                        replace hW : xt_W D A ss.heap (xM am cI cL S K n iz dz (xq_top (mq_po S K n w ro a b c) (mq_wh S K n w ro a b)) (xq_bot (mq_po S K n w ro a b c) (mq_wh S K n w ro a b)) w ro wa_45 ch al fv3) H locs := hW
                        refine xt_ldc2 C 18 (clX1_107) dX1_learn_48 (by decide +kernel) ?_
                        refine lv_aload_n C.1 C.2.1 dX1_learn_51 rfl (lv_at hl 4 rfl) ?_
                        refine xt_get xt_inX1 C hW 0 rfl rfl 11 (by decide) rfl flX1_top rfl dX1_learn_52 ?_
                        refine xt_lmul C dX1_learn_55 ?_
                        refine lv_aload_n C.1 C.2.1 dX1_learn_56 rfl (lv_at hl 4 rfl) ?_
                        refine xt_get xt_inX1 C hW 0 rfl rfl 12 (by decide) rfl flX1_bottom rfl dX1_learn_57 ?_
                        refine xt_ladd C dX1_learn_60 ?_
                        refine W.eq (g2 := F0 mi 61 ls [.long (lN ((18 * (xq_top (mq_po S K n w ro a b c) (mq_wh S K n w ro a b))) + (xq_bot (mq_po S K n w ro a b c) (mq_wh S K n w ro a b))))]) rfl ?_
                        refine xt_ldc2 C 2 (clX1_109) dX1_learn_61 (by decide +kernel) ?_
                        refine lv_aload_n C.1 C.2.1 dX1_learn_64 rfl (lv_at hl 4 rfl) ?_
                        refine xt_get xt_inX1 C hW 0 rfl rfl 12 (by decide) rfl flX1_bottom rfl dX1_learn_65 ?_
                        refine xt_lmul C dX1_learn_68 ?_
                        refine xt_ldiv C dX1_learn_69 (by omega) (by omega) (by omega) ?_
                        refine xt_l2i C dX1_learn_70 ?_
                        refine W.eq (g2 := F0 mi 71 ls [.int (nI (mq_lv S K n w ro a b c))]) rfl ?_
                        refine lv_istore C.1 C.2.1 dX1_learn_71 hl (by decide) rfl (fun ls hl => ?_)
                        replace hl : lv_has ls 6 [(5, .int (nI (mq_lv S K n w ro a b c))), (4, .int (nI c)), (3, .int (nI b)), (2, .int (nI a)), (1, .int (nI (ms_sum (fun z1 => ms_sum (fun z2 => ms_sum (fun z3 => mq_lv S K n w ro z1 z2 z3) (xq_cl S K z1)) (xq_rw S z1)) a + ms_sum (fun z2 => ms_sum (fun z3 => mq_lv S K n w ro a z2 z3) (xq_cl S K a)) b + ms_sum (fun z3 => mq_lv S K n w ro a b z3) c))), (0, .ref (am 0))] := hl
                        refine lv_aload_n C.1 C.2.1 dX1_learn_73 rfl (lv_at hl 5 rfl) ?_
                        refine xt_get xt_inX1 C hW 0 rfl rfl 10 (by decide) rfl flX1_fresh rfl dX1_learn_74 ?_
                        refine lv_aload_n C.1 C.2.1 dX1_learn_77 rfl (lv_at hl 5 rfl) ?_
                        refine lv_iload_n C.1 C.2.1 dX1_learn_78 rfl (lv_at hl 3 rfl) ?_
                        refine lv_iload_n C.1 C.2.1 dX1_learn_79 rfl (lv_at hl 2 rfl) ?_
                        refine W.eq (g2 := F0 mi 80 ls [.int (nI b), .int (nI a), .ref (am 0), .ref (am 6)]) rfl ?_
                        refine lv_iload C.1 C.2.1 dX1_learn_80 (lv_at hl 1 rfl) ?_
                        refine xt_ci hA hW (xt_runV C hW.1 hW.2.1 cwX1_X1_slot (cm_slot_y l D cI cL am S K n iz dz (xq_top (mq_po S K n w ro a b c) (mq_wh S K n w ro a b)) (xq_bot (mq_po S K n w ro a b c) (mq_wh S K n w ro a b)) w ro wa_45 ch al fv3 a b c (by omega) (by omega) (hk)) rfl rfl rfl hl.1 (rest := [.ref (am 6)]) rfl (Nat.le_of_ble_eq_true rfl) ⟨(Nat.le_of_ble_eq_true rfl), (Nat.le_of_ble_eq_true rfl)⟩ ⟨Nat.zero_le _, Nat.zero_le _⟩ dX1_learn_82) (fun r82 u H locs hp82 hW => ?_)
                        replace hW : xt_W D A ss.heap (xM am cI cL S K n iz dz (xq_top (mq_po S K n w ro a b c) (mq_wh S K n w ro a b)) (xq_bot (mq_po S K n w ro a b c) (mq_wh S K n w ro a b)) w ro wa_45 ch al fv3) H locs := hW
                        subst hp82
                        refine lv_iload C.1 C.2.1 dX1_learn_85 (lv_at hl 0 rfl) ?_
                        refine xt_iast C hW 6 rfl (by decide) dX1_learn_87 (by omega) (fun H locs hW => ?_)
                        replace hW : xt_W D A ss.heap (xM am cI cL S K n iz dz (xq_top (mq_po S K n w ro a b c) (mq_wh S K n w ro a b)) (xq_bot (mq_po S K n w ro a b c) (mq_wh S K n w ro a b)) w ro wa_45 ch al (va_up fv3 (mq_sl a b c) (mq_lv S K n w ro a b c))) H locs := hW
                        refine lv_iload_n C.1 C.2.1 dX1_learn_88 rfl (lv_at hl 4 rfl) ?_
                        refine lv_iload C.1 C.2.1 dX1_learn_89 (lv_at hl 0 rfl) ?_
                        refine xt_iadd C dX1_learn_91 ?_
                        refine lv_istore_n C.1 C.2.1 dX1_learn_92 rfl hl (by decide) rfl (fun ls hl => ?_)
                        replace hl : lv_has ls 6 [(1, .int (nI ((ms_sum (fun z1 => ms_sum (fun z2 => ms_sum (fun z3 => mq_lv S K n w ro z1 z2 z3) (xq_cl S K z1)) (xq_rw S z1)) a + ms_sum (fun z2 => ms_sum (fun z3 => mq_lv S K n w ro a z2 z3) (xq_cl S K a)) b + ms_sum (fun z3 => mq_lv S K n w ro a b z3) c) + (mq_lv S K n w ro a b c)))), (5, .int (nI (mq_lv S K n w ro a b c))), (4, .int (nI c)), (3, .int (nI b)), (2, .int (nI a)), (0, .ref (am 0))] := hl
                        refine lv_iinc (k := 2) C.1 C.2.1 dX1_learn_93 hl rfl xt_inc (by decide) rfl (fun ls hl => ?_)
                        replace hl : lv_has ls 6 [(4, .int (nI (c + 1))), (1, .int (nI ((ms_sum (fun z1 => ms_sum (fun z2 => ms_sum (fun z3 => mq_lv S K n w ro z1 z2 z3) (xq_cl S K z1)) (xq_rw S z1)) a + ms_sum (fun z2 => ms_sum (fun z3 => mq_lv S K n w ro a z2 z3) (xq_cl S K a)) b + ms_sum (fun z3 => mq_lv S K n w ro a b z3) c) + (mq_lv S K n w ro a b c)))), (5, .int (nI (mq_lv S K n w ro a b c))), (3, .int (nI b)), (2, .int (nI a)), (0, .ref (am 0))] := hl
                        refine lv_goto C.1 C.2.1 dX1_learn_96 (tgt := 30) (by decide) ?_
                        rw [Nat.add_assoc (ms_sum (fun z1 => ms_sum (fun z2 => ms_sum (fun z3 => mq_lv S K n w ro z1 z2 z3) (xq_cl S K z1)) (xq_rw S z1)) a + ms_sum (fun z2 => ms_sum (fun z3 => mq_lv S K n w ro a z2 z3) (xq_cl S K a)) b) (ms_sum (fun z3 => mq_lv S K n w ro a b z3) c)] at hl
                        replace hl : lv_has ls 6 [(4, .int (nI (c + 1))), (1, .int (nI (ms_sum (fun z1 => ms_sum (fun z2 => ms_sum (fun z3 => mq_lv S K n w ro z1 z2 z3) (xq_cl S K z1)) (xq_rw S z1)) a + ms_sum (fun z2 => ms_sum (fun z3 => mq_lv S K n w ro a z2 z3) (xq_cl S K a)) b + ms_sum (fun z3 => mq_lv S K n w ro a b z3) (c + 1)))), (5, .int (nI (mq_lv S K n w ro a b c))), (3, .int (nI b)), (2, .int (nI a)), (0, .ref (am 0))] := hl
                        exact ih30 _ (by omega) (c + 1) (va_up fv3 (mq_sl a b c) (mq_lv S K n w ro a b c)) wa_45 (xq_top (mq_po S K n w ro a b c) (mq_wh S K n w ro a b)) (xq_bot (mq_po S K n w ro a b c) (mq_wh S K n w ro a b)) rfl (by omega) (mq_put hS3 hK4 (xq_krc (S := S) (K := K) (a := a) (b := b) (c := c) (by omega) (by omega) (by omega)) rfl g3) ls _ _ (lv_sub hl [0, 3, 4, 1, 5] rfl) hW
                  exact lp30 _ 0 fv2 wv2 tv2 bv2 rfl (Nat.zero_le _) (g2) ls _ _ (lv_sub hl [0, 1, 2, 3, 4] rfl) hW
        exact lp11 _ 0 fv wv tv bv rfl (Nat.zero_le _) (g1) ls _ _ (lv_sub hl [0, 1, 2, 3] rfl) hW
  exact lp4 _ 0 fr wa tp bt rfl (Nat.zero_le _) (fun z1 z2 z3 _ h => (mq_o0 h).elim) ls _ _ (lv_sub hl [0, 1, 2] rfl) hW
set_option maxHeartbeats 4000000 in
set_option maxRecDepth 100000 in
theorem cm_draw_y (l : Launch) (D : va_G) (cI cL : ClassId) (am : Nat → Nat) (S K n iz dz tp bt : Nat) (w ro wa ch al fr : Nat → Nat) (v : Nat) (hV : mq_V S K n w ro) (hvt : v < ms_sum (fun z1 => ms_wt (me w ro) S n z1) (S ^ n)) : xt_M l yX1_draw cX1_draw 10 (some .boolean) 2 D cI cL [.ref (am 0), .long (lN v)] (xM am cI cL S K n iz dz tp bt w ro wa ch al fr) (xt_Qi D cI cL (xM am cI cL S K n iz dz tp bt w ro wa ch al fr) (fun (r : Int32) (u : (Nat → Nat) × (Nat → Nat)) => r = nI 1 ∧ ∃ z3, z3 < S ^ n ∧ ms_sum (fun z1 => ms_wt (me w ro) S n z1) z3 ≤ v ∧ v < ms_sum (fun z1 => ms_wt (me w ro) S n z1) (z3 + 1) ∧ ∀ z2, z2 < n → u.2 z2 = ms_dg S n z3 z2) (fun u => xM am cI cL S K n 1 n tp bt w ro u.1 u.2 al fr)) := by
  have hV2 := hV
  obtain ⟨hS0, hS3, hK0, hK4, hn6, hw, hsK⟩ := hV
  have hsy : ∀ p, p < n → ro p < 4 := fun p h => Nat.lt_of_lt_of_le (hsK p h) hK4
  have hpb := ms_pow_le hS3 hn6
  have htb := mq_totb (n := n) hS0 hS3 hn6 hw hsy
  have hvb : v < 2 ^ 63 := Nat.lt_trans hvt htb
  refine xt_start (own := RX1) rfl (by decide) (Nat.le_of_ble_eq_true rfl) (fun pg ev ss mi args below meth cd A Q ls C hE hA hl hW => ?_)
  replace hl : lv_has ls 10 [(0, .ref (am 0)), (1, .long (lN v))] := hl
  refine lv_lload_n C.1 C.2.1 dX1_draw_0 rfl (lv_at hl 1 rfl) ?_
  refine xt_lconst C 0 dX1_draw_1 (by decide +kernel) ?_
  refine xt_l_ge C (hvb) (by decide) dX1_draw_2 dX1_draw_3 (tgt := 8) (by decide) (fun h2 => ?_) (fun h2 => ?_)
  · refine lv_lload_n C.1 C.2.1 dX1_draw_8 rfl (lv_at hl 1 rfl) ?_
    refine lv_lstore_n C.1 C.2.1 dX1_draw_9 rfl hl (by decide) rfl (fun ls hl => ?_)
    replace hl : lv_has ls 10 [(3, .long (lN v)), (0, .ref (am 0)), (1, .long (lN v))] := hl
    refine lv_aload_n C.1 C.2.1 dX1_draw_10 rfl (lv_at hl 1 rfl) ?_
    refine lv_aload_n C.1 C.2.1 dX1_draw_11 rfl (lv_at hl 1 rfl) ?_
    refine xt_get xt_inX1 C hW 0 rfl rfl 3 (by decide) rfl flX1_n rfl dX1_draw_12 ?_
    refine xt_ci hA hW (xt_runV C hW.1 hW.2.1 cwX1_X1_power (cm_power l D cI cL am S K n iz dz tp bt w ro wa ch al fr n (by omega)) rfl rfl rfl hl.1 (rest := []) rfl (Nat.le_of_ble_eq_true rfl) ⟨(Nat.le_of_ble_eq_true rfl), (Nat.le_of_ble_eq_true rfl)⟩ ⟨Nat.zero_le _, Nat.zero_le _⟩ dX1_draw_15) (fun r15 u H locs hp15 hW => ?_)
    replace hW : xt_W D A ss.heap (xM am cI cL S K n iz dz tp bt w ro wa ch al fr) H locs := hW
    subst hp15
    refine lv_istore C.1 C.2.1 dX1_draw_18 hl (by decide) rfl (fun ls hl => ?_)
    replace hl : lv_has ls 10 [(5, .int (nI (S ^ n))), (3, .long (lN v)), (0, .ref (am 0)), (1, .long (lN v))] := hl
    refine xt_iconst C 0 dX1_draw_20 (by decide +kernel) ?_
    refine lv_istore C.1 C.2.1 dX1_draw_21 hl (by decide) rfl (fun ls hl => ?_)
    replace hl : lv_has ls 10 [(6, .int (nI 0)), (5, .int (nI (S ^ n))), (3, .long (lN v)), (0, .ref (am 0)), (1, .long (lN v))] := hl
    have lp23 : ∀ (mq0 : Nat) (k : Nat) (rs : Nat) (wv : Nat → Nat), S ^ n - k = mq0 → (k ≤ S ^ n) → (ms_sum (fun z1 => ms_wt (me w ro) S n z1) k + rs = v) → ∀ (ls : Array Slot) (H : Heap) (locs : List Loc), lv_has ls 10 [(6, .int (nI k)), (5, .int (nI (S ^ n))), (3, .long (lN rs)), (0, .ref (am 0))] → xt_W D A ss.heap (xM am cI cL S K n iz dz tp bt w ro wv ch al fr) H locs → W pg l ev (xt_R 2) ss mi args below meth cd H locs 0 0 Q (F0 mi 23 ls []) := by
      intro mq0
      induction mq0 using Nat.strongRecOn with
      | _ mq0 ih23 =>
        intro k rs wv hq23 hk hA1 ls H locs hl hW
        refine lv_iload C.1 C.2.1 dX1_draw_23 (lv_at hl 0 rfl) ?_
        refine lv_iload C.1 C.2.1 dX1_draw_25 (lv_at hl 1 rfl) ?_
        refine xt_icmp_ge C (by omega) (by omega) dX1_draw_27 (tgt := 103) (by decide) (fun h27 => ?_) (fun h27 => ?_)
        · exfalso
          rw [show k = S ^ n by omega] at hA1
          omega
        · refine lv_aload_n C.1 C.2.1 dX1_draw_30 rfl (lv_at hl 3 rfl) ?_
          refine lv_iload C.1 C.2.1 dX1_draw_31 (lv_at hl 0 rfl) ?_
          refine xt_cl hA hW (xt_runV C hW.1 hW.2.1 cwX1_X1_weightOf (cm_weightOf l D cI cL am S K n iz dz tp bt w ro wv ch al fr k (hV2) (by omega)) rfl rfl rfl hl.1 (rest := []) rfl (Nat.le_of_ble_eq_true rfl) ⟨(Nat.le_of_ble_eq_true rfl), (Nat.le_of_ble_eq_true rfl)⟩ ⟨Nat.zero_le _, Nat.zero_le _⟩ dX1_draw_33) (fun r33 u H locs hp33 hW => ?_)
          obtain ⟨wa_33, rfl⟩ : ∃ z, z = u := ⟨_, rfl⟩
          replace hW : xt_W D A ss.heap (xM am cI cL S K n iz dz tp bt w ro wa_33 ch al fr) H locs := hW
          replace hp33 : r33 = lN (ms_wt (me w ro) S n k) ∧ ∀ z1, z1 < n → wa_33 z1 = ms_dg S n k z1 := hp33
          obtain ⟨rfl, hp33⟩ := hp33
          refine lv_lstore C.1 C.2.1 dX1_draw_36 hl (by decide) rfl (fun ls hl => ?_)
          replace hl : lv_has ls 10 [(7, .long (lN (ms_wt (me w ro) S n k))), (6, .int (nI k)), (5, .int (nI (S ^ n))), (3, .long (lN rs)), (0, .ref (am 0))] := hl
          refine lv_lload_n C.1 C.2.1 dX1_draw_38 rfl (lv_at hl 3 rfl) ?_
          refine lv_lload C.1 C.2.1 dX1_draw_39 (lv_at hl 0 rfl) ?_
          refine xt_l_ge C (by omega) (mq_wtb hw hS3 hS0 hn6 hsy) dX1_draw_41 dX1_draw_42 (tgt := 92) (by decide) (fun h41 => ?_) (fun h41 => ?_)
          · refine lv_lload_n C.1 C.2.1 dX1_draw_92 rfl (lv_at hl 3 rfl) ?_
            refine lv_lload C.1 C.2.1 dX1_draw_93 (lv_at hl 0 rfl) ?_
            refine xt_lsub C dX1_draw_95 (by omega) ?_
            refine lv_lstore_n C.1 C.2.1 dX1_draw_96 rfl hl (by decide) rfl (fun ls hl => ?_)
            replace hl : lv_has ls 10 [(3, .long (lN (rs - (ms_wt (me w ro) S n k)))), (7, .long (lN (ms_wt (me w ro) S n k))), (6, .int (nI k)), (5, .int (nI (S ^ n))), (0, .ref (am 0))] := hl
            refine lv_iinc (k := 2) C.1 C.2.1 dX1_draw_97 hl rfl xt_inc (by decide) rfl (fun ls hl => ?_)
            replace hl : lv_has ls 10 [(6, .int (nI (k + 1))), (3, .long (lN (rs - (ms_wt (me w ro) S n k)))), (7, .long (lN (ms_wt (me w ro) S n k))), (5, .int (nI (S ^ n))), (0, .ref (am 0))] := hl
            refine lv_goto C.1 C.2.1 dX1_draw_100 (tgt := 23) (by decide) ?_
            exact ih23 _ (by omega) (k + 1) (rs - ms_wt (me w ro) S n k) wa_33 rfl (by omega) (by rw [ms_sum_succ]; omega) ls _ _ (lv_sub hl [0, 3, 1, 4] rfl) hW
          · refine lv_aload_n C.1 C.2.1 dX1_draw_45 rfl (lv_at hl 4 rfl) ?_
            refine xt_iconst C 1 dX1_draw_46 (by decide +kernel) ?_
            refine xt_put (ty := .boolean) xt_inX1 tyX1 tyX1_ok nmX1 C hW 0 rfl rfl 6 (by decide) rfl flX1_isDrawn rfl (by decide +kernel) rfl rfl (Nat.le_of_ble_eq_true rfl) dX1_draw_47 (fun H locs hW => ?_)
            replace hW : xt_W D A ss.heap (xM am cI cL S K n 1 dz tp bt w ro wa_33 ch al fr) H locs := hW
            refine lv_aload_n C.1 C.2.1 dX1_draw_50 rfl (lv_at hl 4 rfl) ?_
            refine lv_aload_n C.1 C.2.1 dX1_draw_51 rfl (lv_at hl 4 rfl) ?_
            refine xt_get xt_inX1 C hW 0 rfl rfl 3 (by decide) rfl flX1_n rfl dX1_draw_52 ?_
            refine xt_put (ty := .int) xt_inX1 tyX1 tyX1_ok nmX1 C hW 0 rfl rfl 7 (by decide) rfl flX1_drawnSize rfl (by decide +kernel) rfl rfl (Nat.le_of_ble_eq_true rfl) dX1_draw_55 (fun H locs hW => ?_)
            replace hW : xt_W D A ss.heap (xM am cI cL S K n 1 n tp bt w ro wa_33 ch al fr) H locs := hW
            refine xt_iconst C 0 dX1_draw_58 (by decide +kernel) ?_
            refine lv_istore C.1 C.2.1 dX1_draw_59 hl (by decide) rfl (fun ls hl => ?_)
            replace hl : lv_has ls 10 [(9, .int (nI 0)), (7, .long (lN (ms_wt (me w ro) S n k))), (6, .int (nI k)), (5, .int (nI (S ^ n))), (3, .long (lN rs)), (0, .ref (am 0))] := hl
            have lp61 : ∀ (mq0 : Nat) (q : Nat) (cv : Nat → Nat), n - q = mq0 → (q ≤ n) → (∀ z, z < q → cv z = wa_33 z) → ∀ (ls : Array Slot) (H : Heap) (locs : List Loc), lv_has ls 10 [(9, .int (nI q)), (0, .ref (am 0))] → xt_W D A ss.heap (xM am cI cL S K n 1 n tp bt w ro wa_33 cv al fr) H locs → W pg l ev (xt_R 2) ss mi args below meth cd H locs 0 0 Q (F0 mi 61 ls []) := by
              intro mq0
              induction mq0 using Nat.strongRecOn with
              | _ mq0 ih61 =>
                intro q cv hq61 hq hcv ls H locs hl hW
                refine lv_iload C.1 C.2.1 dX1_draw_61 (lv_at hl 0 rfl) ?_
                refine lv_aload_n C.1 C.2.1 dX1_draw_63 rfl (lv_at hl 1 rfl) ?_
                refine xt_get xt_inX1 C hW 0 rfl rfl 3 (by decide) rfl flX1_n rfl dX1_draw_64 ?_
                refine xt_icmp_ge C (by omega) (by omega) dX1_draw_67 (tgt := 90) (by decide) (fun h67 => ?_) (fun h67 => ?_)
                · refine xt_iconst C 1 dX1_draw_90 (by decide +kernel) ?_
                  exact xt_zret C hE (wa_33, cv) hW (by first | exact Or.inl rfl | exact Or.inr rfl) (⟨rfl, k, by omega, by omega, by rw [ms_sum_succ]; omega, fun z2 hz => (hcv z2 (by omega)).trans (hp33 z2 hz)⟩) dX1_draw_91
                · refine lv_aload_n C.1 C.2.1 dX1_draw_70 rfl (lv_at hl 1 rfl) ?_
                  refine xt_get xt_inX1 C hW 0 rfl rfl 8 (by decide) rfl flX1_chosen rfl dX1_draw_71 ?_
                  refine lv_iload C.1 C.2.1 dX1_draw_74 (lv_at hl 0 rfl) ?_
                  refine lv_aload_n C.1 C.2.1 dX1_draw_76 rfl (lv_at hl 1 rfl) ?_
                  refine xt_get xt_inX1 C hW 0 rfl rfl 5 (by decide) rfl flX1_way rfl dX1_draw_77 ?_
                  refine lv_iload C.1 C.2.1 dX1_draw_80 (lv_at hl 0 rfl) ?_
                  refine xt_iald C hW 3 rfl (by decide) dX1_draw_82 (by omega) ?_
                  refine xt_iast C hW 4 rfl (by decide) dX1_draw_83 (by omega) (fun H locs hW => ?_)
                  replace hW : xt_W D A ss.heap (xM am cI cL S K n 1 n tp bt w ro wa_33 (va_up cv q (wa_33 q)) al fr) H locs := hW
                  refine lv_iinc (k := 0) C.1 C.2.1 dX1_draw_84 hl rfl xt_inc (by decide) rfl (fun ls hl => ?_)
                  replace hl : lv_has ls 10 [(9, .int (nI (q + 1))), (0, .ref (am 0))] := hl
                  refine lv_goto C.1 C.2.1 dX1_draw_87 (tgt := 61) (by decide) ?_
                  exact ih61 _ (by omega) (q + 1) (va_up cv q (wa_33 q)) rfl (by omega) (fun z hz => if e : z = q then (by rw [e, xq_up]) else (by rw [xq_un e]; exact hcv z (by omega))) ls _ _ (lv_sub hl [0, 1] rfl) hW
            exact lp61 _ 0 ch rfl (Nat.zero_le _) (fun z h => absurd h (Nat.not_lt_zero z)) ls _ _ (lv_sub hl [0, 5] rfl) hW
    exact lp23 _ 0 v wa rfl (Nat.zero_le _) (Nat.zero_add v) ls _ _ (lv_sub hl [0, 1, 2, 3] rfl) hW
  · exfalso
    omega
set_option maxHeartbeats 4000000 in
set_option maxRecDepth 100000 in
theorem cm_draw_n (l : Launch) (D : va_G) (cI cL : ClassId) (am : Nat → Nat) (S K n iz dz tp bt : Nat) (w ro wa ch al fr : Nat → Nat) (u : Int64) (hV : mq_V S K n w ro) (hno : ¬ ∃ z3, u = lN z3 ∧ z3 < ms_sum (fun z1 => ms_wt (me w ro) S n z1) (S ^ n)) : xt_M l yX1_draw cX1_draw 10 (some .boolean) 2 D cI cL [.ref (am 0), .long u] (xM am cI cL S K n iz dz tp bt w ro wa ch al fr) (xt_Qi D cI cL (xM am cI cL S K n iz dz tp bt w ro wa ch al fr) (fun (r : Int32) (u : (Nat → Nat)) => r = nI 0) (fun u => xM am cI cL S K n iz dz tp bt w ro u ch al fr)) := by
  have hV2 := hV
  obtain ⟨hS0, hS3, hK0, hK4, hn6, hw, hsK⟩ := hV
  have hsy : ∀ p, p < n → ro p < 4 := fun p h => Nat.lt_of_lt_of_le (hsK p h) hK4
  have hpb := ms_pow_le hS3 hn6
  refine xt_start (own := RX1) rfl (by decide) (Nat.le_of_ble_eq_true rfl) (fun pg ev ss mi args below meth cd A Q ls C hE hA hl hW => ?_)
  replace hl : lv_has ls 10 [(0, .ref (am 0)), (1, .long u)] := hl
  by_cases hu : u < 0
  · refine lv_lload_n C.1 C.2.1 dX1_draw_0 rfl (lv_at hl 1 rfl) ?_
    refine xt_lconst C 0 dX1_draw_1 (by decide +kernel) ?_
    refine W.lcmp C.1 C.2.1 dX1_draw_2 ?_
    refine lv_if_ge C.1 C.2.1 dX1_draw_3 (tgt := 8) (by decide) (fun h2 => ?_) (fun h2 => ?_)
    · exfalso
      exact absurd ((lg_cmp_ge _ _).mp h2) (fun q => absurd hu (Int64.not_lt.mpr q))
    · refine xt_iconst C 0 dX1_draw_6 (by decide +kernel) ?_
      exact xt_zret C hE wa hW (by first | exact Or.inl rfl | exact Or.inr rfl) (rfl) dX1_draw_7
  obtain ⟨v, hvb, rfl⟩ := pk_lOf hu
  replace hl : lv_has ls 10 [(0, .ref (am 0)), (1, .long (lN v))] := hl
  refine lv_lload_n C.1 C.2.1 dX1_draw_0 rfl (lv_at hl 1 rfl) ?_
  refine xt_lconst C 0 dX1_draw_1 (by decide +kernel) ?_
  refine xt_l_ge C (hvb) (by decide) dX1_draw_2 dX1_draw_3 (tgt := 8) (by decide) (fun h2 => ?_) (fun h2 => ?_)
  · refine lv_lload_n C.1 C.2.1 dX1_draw_8 rfl (lv_at hl 1 rfl) ?_
    refine lv_lstore_n C.1 C.2.1 dX1_draw_9 rfl hl (by decide) rfl (fun ls hl => ?_)
    replace hl : lv_has ls 10 [(3, .long (lN v)), (0, .ref (am 0)), (1, .long (lN v))] := hl
    refine lv_aload_n C.1 C.2.1 dX1_draw_10 rfl (lv_at hl 1 rfl) ?_
    refine lv_aload_n C.1 C.2.1 dX1_draw_11 rfl (lv_at hl 1 rfl) ?_
    refine xt_get xt_inX1 C hW 0 rfl rfl 3 (by decide) rfl flX1_n rfl dX1_draw_12 ?_
    refine xt_ci hA hW (xt_runV C hW.1 hW.2.1 cwX1_X1_power (cm_power l D cI cL am S K n iz dz tp bt w ro wa ch al fr n (by omega)) rfl rfl rfl hl.1 (rest := []) rfl (Nat.le_of_ble_eq_true rfl) ⟨(Nat.le_of_ble_eq_true rfl), (Nat.le_of_ble_eq_true rfl)⟩ ⟨Nat.zero_le _, Nat.zero_le _⟩ dX1_draw_15) (fun r15 u H locs hp15 hW => ?_)
    replace hW : xt_W D A ss.heap (xM am cI cL S K n iz dz tp bt w ro wa ch al fr) H locs := hW
    subst hp15
    refine lv_istore C.1 C.2.1 dX1_draw_18 hl (by decide) rfl (fun ls hl => ?_)
    replace hl : lv_has ls 10 [(5, .int (nI (S ^ n))), (3, .long (lN v)), (0, .ref (am 0)), (1, .long (lN v))] := hl
    refine xt_iconst C 0 dX1_draw_20 (by decide +kernel) ?_
    refine lv_istore C.1 C.2.1 dX1_draw_21 hl (by decide) rfl (fun ls hl => ?_)
    replace hl : lv_has ls 10 [(6, .int (nI 0)), (5, .int (nI (S ^ n))), (3, .long (lN v)), (0, .ref (am 0)), (1, .long (lN v))] := hl
    have lp23 : ∀ (mq0 : Nat) (k : Nat) (rs : Nat) (wv : Nat → Nat), S ^ n - k = mq0 → (k ≤ S ^ n) → (ms_sum (fun z1 => ms_wt (me w ro) S n z1) k + rs = v) → ∀ (ls : Array Slot) (H : Heap) (locs : List Loc), lv_has ls 10 [(6, .int (nI k)), (5, .int (nI (S ^ n))), (3, .long (lN rs)), (0, .ref (am 0))] → xt_W D A ss.heap (xM am cI cL S K n iz dz tp bt w ro wv ch al fr) H locs → W pg l ev (xt_R 2) ss mi args below meth cd H locs 0 0 Q (F0 mi 23 ls []) := by
      intro mq0
      induction mq0 using Nat.strongRecOn with
      | _ mq0 ih23 =>
        intro k rs wv hq23 hk hA1 ls H locs hl hW
        refine lv_iload C.1 C.2.1 dX1_draw_23 (lv_at hl 0 rfl) ?_
        refine lv_iload C.1 C.2.1 dX1_draw_25 (lv_at hl 1 rfl) ?_
        refine xt_icmp_ge C (by omega) (by omega) dX1_draw_27 (tgt := 103) (by decide) (fun h27 => ?_) (fun h27 => ?_)
        · refine xt_iconst C 0 dX1_draw_103 (by decide +kernel) ?_
          exact xt_zret C hE wv hW (by first | exact Or.inl rfl | exact Or.inr rfl) (rfl) dX1_draw_104
        · refine lv_aload_n C.1 C.2.1 dX1_draw_30 rfl (lv_at hl 3 rfl) ?_
          refine lv_iload C.1 C.2.1 dX1_draw_31 (lv_at hl 0 rfl) ?_
          refine xt_cl hA hW (xt_runV C hW.1 hW.2.1 cwX1_X1_weightOf (cm_weightOf l D cI cL am S K n iz dz tp bt w ro wv ch al fr k (hV2) (by omega)) rfl rfl rfl hl.1 (rest := []) rfl (Nat.le_of_ble_eq_true rfl) ⟨(Nat.le_of_ble_eq_true rfl), (Nat.le_of_ble_eq_true rfl)⟩ ⟨Nat.zero_le _, Nat.zero_le _⟩ dX1_draw_33) (fun r33 u H locs hp33 hW => ?_)
          obtain ⟨wa_33, rfl⟩ : ∃ z, z = u := ⟨_, rfl⟩
          replace hW : xt_W D A ss.heap (xM am cI cL S K n iz dz tp bt w ro wa_33 ch al fr) H locs := hW
          replace hp33 : r33 = lN (ms_wt (me w ro) S n k) ∧ ∀ z1, z1 < n → wa_33 z1 = ms_dg S n k z1 := hp33
          obtain ⟨rfl, hp33⟩ := hp33
          refine lv_lstore C.1 C.2.1 dX1_draw_36 hl (by decide) rfl (fun ls hl => ?_)
          replace hl : lv_has ls 10 [(7, .long (lN (ms_wt (me w ro) S n k))), (6, .int (nI k)), (5, .int (nI (S ^ n))), (3, .long (lN rs)), (0, .ref (am 0))] := hl
          refine lv_lload_n C.1 C.2.1 dX1_draw_38 rfl (lv_at hl 3 rfl) ?_
          refine lv_lload C.1 C.2.1 dX1_draw_39 (lv_at hl 0 rfl) ?_
          refine xt_l_ge C (by omega) (mq_wtb hw hS3 hS0 hn6 hsy) dX1_draw_41 dX1_draw_42 (tgt := 92) (by decide) (fun h41 => ?_) (fun h41 => ?_)
          · refine lv_lload_n C.1 C.2.1 dX1_draw_92 rfl (lv_at hl 3 rfl) ?_
            refine lv_lload C.1 C.2.1 dX1_draw_93 (lv_at hl 0 rfl) ?_
            refine xt_lsub C dX1_draw_95 (by omega) ?_
            refine lv_lstore_n C.1 C.2.1 dX1_draw_96 rfl hl (by decide) rfl (fun ls hl => ?_)
            replace hl : lv_has ls 10 [(3, .long (lN (rs - (ms_wt (me w ro) S n k)))), (7, .long (lN (ms_wt (me w ro) S n k))), (6, .int (nI k)), (5, .int (nI (S ^ n))), (0, .ref (am 0))] := hl
            refine lv_iinc (k := 2) C.1 C.2.1 dX1_draw_97 hl rfl xt_inc (by decide) rfl (fun ls hl => ?_)
            replace hl : lv_has ls 10 [(6, .int (nI (k + 1))), (3, .long (lN (rs - (ms_wt (me w ro) S n k)))), (7, .long (lN (ms_wt (me w ro) S n k))), (5, .int (nI (S ^ n))), (0, .ref (am 0))] := hl
            refine lv_goto C.1 C.2.1 dX1_draw_100 (tgt := 23) (by decide) ?_
            exact ih23 _ (by omega) (k + 1) (rs - ms_wt (me w ro) S n k) wa_33 rfl (by omega) (by rw [ms_sum_succ]; omega) ls _ _ (lv_sub hl [0, 3, 1, 4] rfl) hW
          · exfalso
            have h5 := ms_sum_len (f := fun z1 => ms_wt (me w ro) S n z1) (show k + 1 ≤ S ^ n by omega)
            rw [ms_sum_succ] at h5
            exact hno ⟨v, rfl, by omega⟩
    exact lp23 _ 0 v wa rfl (Nat.zero_le _) (Nat.zero_add v) ls _ _ (lv_sub hl [0, 1, 2, 3] rfl) hW
  · exfalso
    omega
