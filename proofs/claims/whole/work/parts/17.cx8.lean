theorem xq_gs {i a b : Nat} (hb0 : b ≠ 0) (ha : a < 2 ^ 63) (hb : b < 2 ^ 63) (hi : i ≤ 127) (hm : i = 0 ∨ (b < a ∧ a * b < 2 ^ (127 - i))) : i + 1 ≤ 127 ∧ (a % b < b ∧ b * (a % b) < 2 ^ (127 - (i + 1))) := by
  have hlt : a % b < b := Nat.mod_lt _ (by omega)
  rcases hm with rfl | ⟨h1, h2⟩
  · refine ⟨by omega, hlt, ?_⟩
    have h3 : b * (a % b) ≤ b * b := Nat.mul_le_mul_left _ (Nat.le_of_lt hlt)
    have h4 : b * b < 2 ^ 63 * 2 ^ 63 := Nat.mul_lt_mul'' hb hb
    have h5 : (2 : Nat) ^ 63 * 2 ^ 63 = 2 ^ (127 - (0 + 1)) := by decide
    omega
  · have hab : a * b ≠ 0 := Nat.mul_ne_zero (by omega) hb0
    have hne : i ≠ 127 := fun q => by
      rw [q] at h2
      have : (2 : Nat) ^ (127 - 127) = 1 := rfl
      omega
    refine ⟨by omega, hlt, ?_⟩
    have e : 127 - i = (127 - (i + 1)) + 1 := by omega
    rw [e, Nat.pow_succ] at h2
    have h3 : 2 * (a % b) ≤ a := by
      have h4 := Nat.div_add_mod a b
      have h5 : 1 ≤ a / b := (Nat.one_le_div_iff (by omega)).mpr (Nat.le_of_lt h1)
      have h6 : b * 1 ≤ b * (a / b) := Nat.mul_le_mul_left _ h5
      omega
    have h7 : b * (2 * (a % b)) ≤ b * a := Nat.mul_le_mul_left _ h3
    have h8 : b * (2 * (a % b)) = 2 * (b * (a % b)) := by rw [← Nat.mul_assoc, Nat.mul_comm b 2, Nat.mul_assoc]
    have h9 : b * a = a * b := Nat.mul_comm _ _
    omega
theorem xq_gcdb {x y : Nat} (hx : x ≠ 0) (hb : x < 2 ^ 63) : Nat.gcd x y < 2 ^ 63 := Nat.lt_of_le_of_lt (Nat.gcd_le_left y (by omega)) hb
theorem xq_gcdp {x y : Nat} (hx : x ≠ 0) : 0 < Nat.gcd x y := Nat.gcd_pos_of_pos_left y (by omega)
def xq_top (x y : Nat) : Nat := if x = 0 then 0 else x / Nat.gcd x y
def xq_bot (x y : Nat) : Nat := if x = 0 then 1 else y / Nat.gcd x y
/-- a part of a fraction -/
def xq_pt (x y : Nat) (k : Int32) : Nat := if k = nI 0 then xq_top x y else if k = nI 1 then xq_bot x y else 0
theorem xq_pt0 (x y : Nat) : xq_pt x y (nI 0) = xq_top x y := if_pos rfl
theorem xq_pt1 (x y : Nat) : xq_pt x y (nI 1) = xq_bot x y := by unfold xq_pt; rw [if_neg (by decide), if_pos rfl]
theorem xq_ptx {x y : Nat} {k : Int32} (h0 : ¬ k = nI 0) (h1 : ¬ k = nI 1) : xq_pt x y k = 0 := by unfold xq_pt; rw [if_neg h0, if_neg h1]
theorem xq_top0 {x : Nat} (y : Nat) (h : x = 0) : xq_top x y = 0 := if_pos h
theorem xq_top1 {x : Nat} (y : Nat) (h : x ≠ 0) : xq_top x y = x / Nat.gcd x y := if_neg h
theorem xq_bot0 {x : Nat} (y : Nat) (h : x = 0) : xq_bot x y = 1 := if_pos h
theorem xq_bot1 {x : Nat} (y : Nat) (h : x ≠ 0) : xq_bot x y = y / Nat.gcd x y := if_neg h
/-- how many columns a row of weights has, how many rows a kind -/
def xq_cl (S K a : Nat) : Nat := if a = 2 then K else S
def xq_rw (S a : Nat) : Nat := if a = 0 then 1 else S
theorem xq_sym {e : Nat → Nat → Nat → Nat} {S n i f c : Nat} {sy : Nat → Nat} (hi : i < n) (h : sy i = c) : ms_sum (fun z1 => if sy z1 = c then ms_bf e S z1 f * ms_bh e S n (n - 1 - z1) f else 0) i + (if i < n then ms_bf e S i f * ms_bh e S n (n - 1 - i) f else 0) = ms_sum (fun z1 => if sy z1 = c then ms_bf e S z1 f * ms_bh e S n (n - 1 - z1) f else 0) (i + 1) := by
  rw [ms_sum_succ, if_pos hi, if_pos h]
theorem xq_syn {e : Nat → Nat → Nat → Nat} {S n i f c : Nat} {sy : Nat → Nat} (h : sy i ≠ c) : ms_sum (fun z1 => if sy z1 = c then ms_bf e S z1 f * ms_bh e S n (n - 1 - z1) f else 0) i = ms_sum (fun z1 => if sy z1 = c then ms_bf e S z1 f * ms_bh e S n (n - 1 - z1) f else 0) (i + 1) := by
  rw [ms_sum_succ, if_neg h, Nat.add_zero]
set_option maxHeartbeats 4000000 in
set_option maxRecDepth 100000 in
theorem cx_commonDivisor (l : Launch) (D : va_G) (cI cL : ClassId) (ws : va_W) (x : Nat) (y : Nat) (hxb : x < 2 ^ 63) (hyb : y < 2 ^ 63) : xt_M l yX0_commonDivisor cX0_commonDivisor 11 (some .long) 0 D cI cL [.long (lN x), .long (lN y)] (ws) (xt_Ql D cI cL (ws) (fun (r : Int64) (u : Unit) => r = lN (Nat.gcd x y)) (fun u => ws)) := by
  refine xt_start (own := RX0) rfl (by decide) (Nat.le_of_ble_eq_true rfl) (fun pg ev ss mi args below meth cd A Q ls C hE hA hl hW => ?_)
  replace hl : lv_has ls 11 [(0, .long (lN x)), (2, .long (lN y))] := hl
  refine lv_lload_n C.1 C.2.1 dX0_commonDivisor_0 rfl (lv_at hl 0 rfl) ?_
  refine lv_lstore C.1 C.2.1 dX0_commonDivisor_1 hl (by decide) rfl (fun ls hl => ?_)
  replace hl : lv_has ls 11 [(4, .long (lN x)), (0, .long (lN x)), (2, .long (lN y))] := hl
  refine lv_lload_n C.1 C.2.1 dX0_commonDivisor_3 rfl (lv_at hl 2 rfl) ?_
  refine lv_lstore C.1 C.2.1 dX0_commonDivisor_4 hl (by decide) rfl (fun ls hl => ?_)
  replace hl : lv_has ls 11 [(6, .long (lN y)), (4, .long (lN x)), (0, .long (lN x)), (2, .long (lN y))] := hl
  refine xt_iconst C 0 dX0_commonDivisor_6 (by decide +kernel) ?_
  refine lv_istore C.1 C.2.1 dX0_commonDivisor_7 hl (by decide) rfl (fun ls hl => ?_)
  replace hl : lv_has ls 11 [(8, .int (nI 0)), (6, .long (lN y)), (4, .long (lN x)), (0, .long (lN x)), (2, .long (lN y))] := hl
  have lp9 : ∀ (q : Nat) (i : Nat) (a : Nat) (b : Nat), 1000 - i = q → (i ≤ 127) → (a < 2 ^ 63) → (b < 2 ^ 63) → (Nat.gcd a b = Nat.gcd x y) → (i = 0 ∨ (b < a ∧ a * b < 2 ^ (127 - i))) → ∀ (ls : Array Slot) (H : Heap) (locs : List Loc), lv_has ls 11 [(8, .int (nI i)), (6, .long (lN b)), (4, .long (lN a))] → xt_W D A ss.heap (ws) H locs → W pg l ev (xt_R 0) ss mi args below meth cd H locs 0 0 Q (F0 mi 9 ls []) := by
    intro q
    induction q using Nat.strongRecOn with
    | _ q ih9 =>
      intro i a b hq9 hi ha hb hg hm ls H locs hl hW
      refine lv_iload C.1 C.2.1 dX0_commonDivisor_9 (lv_at hl 0 rfl) ?_
      refine xt_sipush C 1000 dX0_commonDivisor_11 (by decide +kernel) ?_
      refine xt_icmp_ge C (by omega) (by omega) dX0_commonDivisor_14 (tgt := 45) (by decide) (fun h14 => ?_) (fun h14 => ?_)
      · exfalso
        omega
      · refine lv_lload C.1 C.2.1 dX0_commonDivisor_17 (lv_at hl 1 rfl) ?_
        refine xt_lconst C 0 dX0_commonDivisor_19 (by decide +kernel) ?_
        refine xt_l_eq C (hb) (by decide) dX0_commonDivisor_20 dX0_commonDivisor_21 (tgt := 45) (by decide) (fun h20 => ?_) (fun h20 => ?_)
        · refine lv_lload C.1 C.2.1 dX0_commonDivisor_45 (lv_at hl 2 rfl) ?_
          exact xt_lret C hE () hW (by show lN a = lN _; rw [← hg, show b = 0 from h20, Nat.gcd_zero_right]) dX0_commonDivisor_47
        · refine lv_lload C.1 C.2.1 dX0_commonDivisor_24 (lv_at hl 2 rfl) ?_
          refine lv_lload C.1 C.2.1 dX0_commonDivisor_26 (lv_at hl 1 rfl) ?_
          refine xt_lrem C dX0_commonDivisor_28 (by omega) (ha) (hb) ?_
          refine lv_lstore C.1 C.2.1 dX0_commonDivisor_29 hl (by decide) rfl (fun ls hl => ?_)
          replace hl : lv_has ls 11 [(9, .long (lN (a % b))), (8, .int (nI i)), (6, .long (lN b)), (4, .long (lN a))] := hl
          refine lv_lload C.1 C.2.1 dX0_commonDivisor_31 (lv_at hl 2 rfl) ?_
          refine lv_lstore C.1 C.2.1 dX0_commonDivisor_33 hl (by decide) rfl (fun ls hl => ?_)
          replace hl : lv_has ls 11 [(4, .long (lN b)), (9, .long (lN (a % b))), (8, .int (nI i)), (6, .long (lN b))] := hl
          refine lv_lload C.1 C.2.1 dX0_commonDivisor_35 (lv_at hl 1 rfl) ?_
          refine lv_lstore C.1 C.2.1 dX0_commonDivisor_37 hl (by decide) rfl (fun ls hl => ?_)
          replace hl : lv_has ls 11 [(6, .long (lN (a % b))), (4, .long (lN b)), (9, .long (lN (a % b))), (8, .int (nI i))] := hl
          refine lv_iinc (k := 3) C.1 C.2.1 dX0_commonDivisor_39 hl rfl xt_inc (by decide) rfl (fun ls hl => ?_)
          replace hl : lv_has ls 11 [(8, .int (nI (i + 1))), (6, .long (lN (a % b))), (4, .long (lN b)), (9, .long (lN (a % b)))] := hl
          refine lv_goto C.1 C.2.1 dX0_commonDivisor_42 (tgt := 9) (by decide) ?_
          exact ih9 _ (by omega) (i + 1) b (a % b) rfl ((xq_gs h20 ha hb hi hm).1) (hb) (Nat.lt_trans (Nat.mod_lt _ (by omega)) hb) (by rw [ms_gcd_step (by omega)]; exact hg) (Or.inr (xq_gs h20 ha hb hi hm).2) ls _ _ (lv_sub hl [0, 1, 2] rfl) hW
  exact lp9 _ 0 x y rfl (Nat.zero_le _) (hxb) (hyb) (rfl) (Or.inl rfl) ls _ _ (lv_sub hl [0, 1, 2] rfl) hW
set_option maxHeartbeats 4000000 in
set_option maxRecDepth 100000 in
theorem cx_partOf (l : Launch) (D : va_G) (cI cL : ClassId) (ws : va_W) (x : Nat) (y : Nat) (k : Int32) (hxb : x < 2 ^ 63) (hyb : y < 2 ^ 63) : xt_M l yX0_partOf cX0_partOf 7 (some .long) 1 D cI cL [.long (lN x), .long (lN y), .int k] (ws) (xt_Ql D cI cL (ws) (fun (r : Int64) (u : Unit) => r = lN (xq_pt x y k)) (fun u => ws)) := by
  refine xt_start (own := RX0) rfl (by decide) (Nat.le_of_ble_eq_true rfl) (fun pg ev ss mi args below meth cd A Q ls C hE hA hl hW => ?_)
  replace hl : lv_has ls 7 [(0, .long (lN x)), (2, .long (lN y)), (4, .int k)] := hl
  by_cases e0 : k = nI 0
  · subst e0
    replace hl : lv_has ls 7 [(0, .long (lN x)), (2, .long (lN y)), (4, .int (nI 0))] := hl
    refine lv_iload C.1 C.2.1 dX0_partOf_0 (lv_at hl 2 rfl) ?_
    refine xt_if_eq C (by omega) dX0_partOf_2 (tgt := 13) (by decide) (fun h2 => ?_) (fun h2 => ?_)
    · refine lv_lload_n C.1 C.2.1 dX0_partOf_13 rfl (lv_at hl 0 rfl) ?_
      refine lv_lload_n C.1 C.2.1 dX0_partOf_14 rfl (lv_at hl 1 rfl) ?_
      refine xt_cl hA hW (xt_runS C hW.1 hW.2.1 cwX0_X0_commonDivisor (cx_commonDivisor l D cI cL (ws) x y (hxb) (hyb)) rfl hl.1 (rest := []) rfl (Nat.le_of_ble_eq_true rfl) ⟨(Nat.le_of_ble_eq_true rfl), (Nat.le_of_ble_eq_true rfl)⟩ ⟨Nat.zero_le _, Nat.zero_le _⟩ dX0_partOf_15) (fun r15 u H locs hp15 hW => ?_)
      replace hW : xt_W D A ss.heap (ws) H locs := hW
      subst hp15
      refine lv_lstore C.1 C.2.1 dX0_partOf_18 hl (by decide) rfl (fun ls hl => ?_)
      replace hl : lv_has ls 7 [(5, .long (lN (Nat.gcd x y))), (0, .long (lN x)), (2, .long (lN y)), (4, .int (nI 0))] := hl
      refine lv_lload_n C.1 C.2.1 dX0_partOf_20 rfl (lv_at hl 1 rfl) ?_
      refine xt_lconst C 0 dX0_partOf_21 (by decide +kernel) ?_
      refine xt_l_eq C (hxb) (by decide) dX0_partOf_22 dX0_partOf_23 (tgt := 33) (by decide) (fun h22 => ?_) (fun h22 => ?_)
      · refine lv_iload C.1 C.2.1 dX0_partOf_33 (lv_at hl 3 rfl) ?_
        refine xt_i2l C dX0_partOf_35 (by decide) ?_
        exact xt_lret C hE () hW (by show lN _ = lN _; first | rw [xq_pt0, xq_top0 y h22] | rw [xq_pt0, xq_top1 y h22]) dX0_partOf_36
      · refine lv_lload C.1 C.2.1 dX0_partOf_26 (lv_at hl 0 rfl) ?_
        refine xt_lconst C 0 dX0_partOf_28 (by decide +kernel) ?_
        refine xt_l_ne C (xq_gcdb h22 hxb) (by decide) dX0_partOf_29 dX0_partOf_30 (tgt := 37) (by decide) (fun h29 => ?_) (fun h29 => ?_)
        · refine lv_iload C.1 C.2.1 dX0_partOf_37 (lv_at hl 3 rfl) ?_
          refine xt_if_ne C (by omega) dX0_partOf_39 (tgt := 46) (by decide) (fun h39 => ?_) (fun h39 => ?_)
          · exfalso
            omega
          · refine lv_lload_n C.1 C.2.1 dX0_partOf_42 rfl (lv_at hl 1 rfl) ?_
            refine lv_goto C.1 C.2.1 dX0_partOf_43 (tgt := 47) (by decide) ?_
            refine lv_lload C.1 C.2.1 dX0_partOf_47 (lv_at hl 0 rfl) ?_
            refine xt_ldiv C dX0_partOf_49 (xq_gcdp h22) (by first | exact hxb | exact hyb) (xq_gcdb h22 hxb) ?_
            exact xt_lret C hE () hW (by show lN _ = lN _; first | rw [xq_pt0, xq_top0 y h22] | rw [xq_pt0, xq_top1 y h22]) dX0_partOf_50
        · exfalso
          have := xq_gcdp (y := y) h22
          omega
    · exfalso
      omega
  by_cases e1 : k = nI 1
  · subst e1
    replace hl : lv_has ls 7 [(0, .long (lN x)), (2, .long (lN y)), (4, .int (nI 1))] := hl
    refine lv_iload C.1 C.2.1 dX0_partOf_0 (lv_at hl 2 rfl) ?_
    refine xt_if_eq C (by omega) dX0_partOf_2 (tgt := 13) (by decide) (fun h2 => ?_) (fun h2 => ?_)
    · exfalso
      omega
    · refine lv_iload C.1 C.2.1 dX0_partOf_5 (lv_at hl 2 rfl) ?_
      refine xt_iconst C 1 dX0_partOf_7 (by decide +kernel) ?_
      refine xt_icmp_eq C (by omega) (by omega) dX0_partOf_8 (tgt := 13) (by decide) (fun h8 => ?_) (fun h8 => ?_)
      · refine lv_lload_n C.1 C.2.1 dX0_partOf_13 rfl (lv_at hl 0 rfl) ?_
        refine lv_lload_n C.1 C.2.1 dX0_partOf_14 rfl (lv_at hl 1 rfl) ?_
        refine xt_cl hA hW (xt_runS C hW.1 hW.2.1 cwX0_X0_commonDivisor (cx_commonDivisor l D cI cL (ws) x y (hxb) (hyb)) rfl hl.1 (rest := []) rfl (Nat.le_of_ble_eq_true rfl) ⟨(Nat.le_of_ble_eq_true rfl), (Nat.le_of_ble_eq_true rfl)⟩ ⟨Nat.zero_le _, Nat.zero_le _⟩ dX0_partOf_15) (fun r15 u H locs hp15 hW => ?_)
        replace hW : xt_W D A ss.heap (ws) H locs := hW
        subst hp15
        refine lv_lstore C.1 C.2.1 dX0_partOf_18 hl (by decide) rfl (fun ls hl => ?_)
        replace hl : lv_has ls 7 [(5, .long (lN (Nat.gcd x y))), (0, .long (lN x)), (2, .long (lN y)), (4, .int (nI 1))] := hl
        refine lv_lload_n C.1 C.2.1 dX0_partOf_20 rfl (lv_at hl 1 rfl) ?_
        refine xt_lconst C 0 dX0_partOf_21 (by decide +kernel) ?_
        refine xt_l_eq C (hxb) (by decide) dX0_partOf_22 dX0_partOf_23 (tgt := 33) (by decide) (fun h22 => ?_) (fun h22 => ?_)
        · refine lv_iload C.1 C.2.1 dX0_partOf_33 (lv_at hl 3 rfl) ?_
          refine xt_i2l C dX0_partOf_35 (by decide) ?_
          exact xt_lret C hE () hW (by show lN _ = lN _; first | rw [xq_pt1, xq_bot0 y h22] | rw [xq_pt1, xq_bot1 y h22]) dX0_partOf_36
        · refine lv_lload C.1 C.2.1 dX0_partOf_26 (lv_at hl 0 rfl) ?_
          refine xt_lconst C 0 dX0_partOf_28 (by decide +kernel) ?_
          refine xt_l_ne C (xq_gcdb h22 hxb) (by decide) dX0_partOf_29 dX0_partOf_30 (tgt := 37) (by decide) (fun h29 => ?_) (fun h29 => ?_)
          · refine lv_iload C.1 C.2.1 dX0_partOf_37 (lv_at hl 3 rfl) ?_
            refine xt_if_ne C (by omega) dX0_partOf_39 (tgt := 46) (by decide) (fun h39 => ?_) (fun h39 => ?_)
            · refine lv_lload_n C.1 C.2.1 dX0_partOf_46 rfl (lv_at hl 2 rfl) ?_
              refine lv_lload C.1 C.2.1 dX0_partOf_47 (lv_at hl 0 rfl) ?_
              refine xt_ldiv C dX0_partOf_49 (xq_gcdp h22) (by first | exact hxb | exact hyb) (xq_gcdb h22 hxb) ?_
              exact xt_lret C hE () hW (by show lN _ = lN _; first | rw [xq_pt1, xq_bot0 y h22] | rw [xq_pt1, xq_bot1 y h22]) dX0_partOf_50
            · exfalso
              omega
          · exfalso
            have := xq_gcdp (y := y) h22
            omega
      · exfalso
        omega
  refine lv_iload C.1 C.2.1 dX0_partOf_0 (lv_at hl 2 rfl) ?_
  refine lv_if_eq C.1 C.2.1 dX0_partOf_2 (tgt := 13) (by decide) (fun h2 => ?_) (fun h2 => ?_)
  · exfalso
    exact e0 (by rw [nI_0]; exact h2)
  · refine lv_iload C.1 C.2.1 dX0_partOf_5 (lv_at hl 2 rfl) ?_
    refine xt_iconst C 1 dX0_partOf_7 (by decide +kernel) ?_
    refine lv_icmp_eq C.1 C.2.1 dX0_partOf_8 (tgt := 13) (by decide) (fun h8 => ?_) (fun h8 => ?_)
    · exfalso
      exact e1 h8
    · refine xt_lconst C 0 dX0_partOf_11 (by decide +kernel) ?_
      exact xt_lret C hE () hW (by show lN 0 = lN _; rw [xq_ptx e0 e1]) dX0_partOf_12
set_option maxHeartbeats 4000000 in
set_option maxRecDepth 100000 in
theorem cx_unitsThrough (l : Launch) (D : va_G) (cI cL : ClassId) (ad : Nat → Nat) (S K n wc dn : Nat) (w lw sy sb sh rw rk dr : Nat → Nat) (p : Nat) (q : Nat) (hp30 : p < 2 ^ 30) (hqS : q < S) (hn6 : n ≤ 6) (hS3 : S ≤ 3) (hok : xq_ok S n w sy sb sh wc rw rk) : xt_M l yX0_unitsThrough cX0_unitsThrough 3 (some .long) 1 D cI cL [.ref (ad 0), .int (nI p), .int (nI q)] (xX ad cI cL S K n wc dn w lw sy sb sh rw rk dr) (xt_Ql D cI cL (xX ad cI cL S K n wc dn w lw sy sb sh rw rk dr) (fun (r : Int64) (u : Unit) => r = lN (if p < n then ms_bf (xe w sy) S p q * ms_bh (xe w sy) S n (n - 1 - p) q else 0)) (fun u => xX ad cI cL S K n wc dn w lw sy sb sh rw rk dr)) := by
  refine xt_start (own := RX0) rfl (by decide) (Nat.le_of_ble_eq_true rfl) (fun pg ev ss mi args below meth cd A Q ls C hE hA hl hW => ?_)
  replace hl : lv_has ls 3 [(0, .ref (ad 0)), (1, .int (nI p)), (2, .int (nI q))] := hl
  refine lv_aload_n C.1 C.2.1 dX0_unitsThrough_0 rfl (lv_at hl 0 rfl) ?_
  refine lv_iload_n C.1 C.2.1 dX0_unitsThrough_1 rfl (lv_at hl 1 rfl) ?_
  refine xt_ci hA hW (xt_runV C hW.1 hW.2.1 cwX0_X0_hasPlace (cx_hasPlace l D cI cL ad S K n wc dn w lw sy sb sh rw rk dr (nI p) (by omega)) rfl rfl rfl hl.1 (rest := []) rfl (Nat.le_of_ble_eq_true rfl) ⟨(Nat.le_of_ble_eq_true rfl), (Nat.le_of_ble_eq_true rfl)⟩ ⟨Nat.zero_le _, Nat.zero_le _⟩ dX0_unitsThrough_2) (fun r2 u H locs hp2 hW => ?_)
  replace hW : xt_W D A ss.heap (xX ad cI cL S K n wc dn w lw sy sb sh rw rk dr) H locs := hW
  replace hp2 : (r2 = nI 1 ∧ ∃ z1, z1 < n ∧ (nI p) = nI z1) ∨ (r2 = nI 0 ∧ ¬ ∃ z1, z1 < n ∧ (nI p) = nI z1) := hp2
  rcases hp2 with ⟨rfl, z, hz, he⟩ | ⟨rfl, hno⟩
  · have hpn : p < n := by have := (nI_eq (by omega) (by omega)).mp he; omega
    replace hl : lv_has ls 3 [(0, .ref (ad 0)), (1, .int (nI p)), (2, .int (nI q))] := hl
    refine xt_if_eq C (by omega) dX0_unitsThrough_5 (tgt := 32) (by decide) (fun h5 => ?_) (fun h5 => ?_)
    · exfalso
      omega
    · refine lv_aload_n C.1 C.2.1 dX0_unitsThrough_8 rfl (lv_at hl 0 rfl) ?_
      refine xt_get xt_inX0 C hW 0 rfl rfl 6 (by decide) rfl flX0_sumsBefore rfl dX0_unitsThrough_9 ?_
      refine lv_iload_n C.1 C.2.1 dX0_unitsThrough_12 rfl (lv_at hl 1 rfl) ?_
      refine lv_iload_n C.1 C.2.1 dX0_unitsThrough_13 rfl (lv_at hl 2 rfl) ?_
      refine xt_ci hA hW (xt_runS C hW.1 hW.2.1 cwX0_X0_cell (cx_cell l D cI cL (xX ad cI cL S K n wc dn w lw sy sb sh rw rk dr) p q) rfl hl.1 (rest := [.ref (ad 4)]) rfl (Nat.le_of_ble_eq_true rfl) ⟨(Nat.le_of_ble_eq_true rfl), (Nat.le_of_ble_eq_true rfl)⟩ ⟨Nat.zero_le _, Nat.zero_le _⟩ dX0_unitsThrough_14) (fun r14 u H locs hp14 hW => ?_)
      replace hW : xt_W D A ss.heap (xX ad cI cL S K n wc dn w lw sy sb sh rw rk dr) H locs := hW
      subst hp14
      refine xt_lald C hW 4 rfl (by decide) dX0_unitsThrough_17 (by omega) ?_
      refine lv_aload_n C.1 C.2.1 dX0_unitsThrough_18 rfl (lv_at hl 0 rfl) ?_
      refine xt_get xt_inX0 C hW 0 rfl rfl 7 (by decide) rfl flX0_sumsBehind rfl dX0_unitsThrough_19 ?_
      refine lv_iload_n C.1 C.2.1 dX0_unitsThrough_22 rfl (lv_at hl 1 rfl) ?_
      refine lv_iload_n C.1 C.2.1 dX0_unitsThrough_23 rfl (lv_at hl 2 rfl) ?_
      refine xt_ci hA hW (xt_runS C hW.1 hW.2.1 cwX0_X0_cell (cx_cell l D cI cL (xX ad cI cL S K n wc dn w lw sy sb sh rw rk dr) p q) rfl hl.1 (rest := [.ref (ad 5), .long (lN (sb (p * 3 + q)))]) rfl (Nat.le_of_ble_eq_true rfl) ⟨(Nat.le_of_ble_eq_true rfl), (Nat.le_of_ble_eq_true rfl)⟩ ⟨Nat.zero_le _, Nat.zero_le _⟩ dX0_unitsThrough_24) (fun r24 u H locs hp24 hW => ?_)
      replace hW : xt_W D A ss.heap (xX ad cI cL S K n wc dn w lw sy sb sh rw rk dr) H locs := hW
      subst hp24
      refine xt_lald C hW 5 rfl (by decide) dX0_unitsThrough_27 (by omega) ?_
      refine W.eq (g2 := F0 mi 28 ls [.long (lN (sh (p * 3 + q))), .long (lN (sb (p * 3 + q)))]) rfl ?_
      refine xt_lmul C dX0_unitsThrough_28 ?_
      refine lv_goto C.1 C.2.1 dX0_unitsThrough_29 (tgt := 33) (by decide) ?_
      exact xt_lret C hE () hW (by show lN _ = lN _; first | rw [if_pos hpn, hok.1 p q hpn hqS, hok.2.1 p q hpn hqS] | rw [if_neg hpn]) dX0_unitsThrough_33
  · have hpn : ¬ p < n := fun q => hno ⟨p, q, rfl⟩
    replace hl : lv_has ls 3 [(0, .ref (ad 0)), (1, .int (nI p)), (2, .int (nI q))] := hl
    refine xt_if_eq C (by omega) dX0_unitsThrough_5 (tgt := 32) (by decide) (fun h5 => ?_) (fun h5 => ?_)
    · refine xt_lconst C 0 dX0_unitsThrough_32 (by decide +kernel) ?_
      exact xt_lret C hE () hW (by show lN _ = lN _; first | rw [if_pos hpn, hok.1 p q hpn hqS, hok.2.1 p q hpn hqS] | rw [if_neg hpn]) dX0_unitsThrough_33
    · exfalso
      omega
set_option maxHeartbeats 4000000 in
set_option maxRecDepth 100000 in
theorem cx_unitsOfStep (l : Launch) (D : va_G) (cI cL : ClassId) (ad : Nat → Nat) (S K n wc dn : Nat) (w lw sy sb sh rw rk dr : Nat → Nat) (f : Nat) (t : Nat) (hV : xq_V S K n wc w lw sy sb sh rw rk) (hfS : f < S) (htS : t < S) : xt_M l yX0_unitsOfStep cX0_unitsOfStep 6 (some .long) 2 D cI cL [.ref (ad 0), .int (nI f), .int (nI t)] (xX ad cI cL S K n wc dn w lw sy sb sh rw rk dr) (xt_Ql D cI cL (xX ad cI cL S K n wc dn w lw sy sb sh rw rk dr) (fun (r : Int64) (u : Unit) => r = lN (ms_sum (fun z1 => ms_bf (xe w sy) S z1 f * xe w sy (z1 + 1) f t * ms_bh (xe w sy) S n (n - 1 - (z1 + 1)) t) (n - 1))) (fun u => xX ad cI cL S K n wc dn w lw sy sb sh rw rk dr)) := by
  obtain ⟨hS0, hS3, hK0, hK4, hn6, hw, hlw, hsK, hok⟩ := hV
  have hsy : ∀ p, p < n → sy p < 4 := fun p h => Nat.lt_of_lt_of_le (hsK p h) hK4
  refine xt_start (own := RX0) rfl (by decide) (Nat.le_of_ble_eq_true rfl) (fun pg ev ss mi args below meth cd A Q ls C hE hA hl hW => ?_)
  replace hl : lv_has ls 6 [(0, .ref (ad 0)), (1, .int (nI f)), (2, .int (nI t))] := hl
  refine xt_lconst C 0 dX0_unitsOfStep_0 (by decide +kernel) ?_
  refine lv_lstore_n C.1 C.2.1 dX0_unitsOfStep_1 rfl hl (by decide) rfl (fun ls hl => ?_)
  replace hl : lv_has ls 6 [(3, .long (lN 0)), (0, .ref (ad 0)), (1, .int (nI f)), (2, .int (nI t))] := hl
  refine xt_iconst C 0 dX0_unitsOfStep_2 (by decide +kernel) ?_
  refine lv_istore C.1 C.2.1 dX0_unitsOfStep_3 hl (by decide) rfl (fun ls hl => ?_)
  replace hl : lv_has ls 6 [(5, .int (nI 0)), (3, .long (lN 0)), (0, .ref (ad 0)), (1, .int (nI f)), (2, .int (nI t))] := hl
  have lp5 : ∀ (q : Nat) (i : Nat), n - i = q → (i ≤ n - 1) → ∀ (ls : Array Slot) (H : Heap) (locs : List Loc), lv_has ls 6 [(5, .int (nI i)), (3, .long (lN (ms_sum (fun z1 => sb (z1 * 3 + f) * xe w sy (z1 + 1) f t * sh ((z1 + 1) * 3 + t)) i))), (0, .ref (ad 0)), (1, .int (nI f)), (2, .int (nI t))] → xt_W D A ss.heap (xX ad cI cL S K n wc dn w lw sy sb sh rw rk dr) H locs → W pg l ev (xt_R 2) ss mi args below meth cd H locs 0 0 Q (F0 mi 5 ls []) := by
    intro q
    induction q using Nat.strongRecOn with
    | _ q ih5 =>
      intro i hq5 hi ls H locs hl hW
      refine lv_iload C.1 C.2.1 dX0_unitsOfStep_5 (lv_at hl 0 rfl) ?_
      refine lv_aload_n C.1 C.2.1 dX0_unitsOfStep_7 rfl (lv_at hl 2 rfl) ?_
      refine xt_get xt_inX0 C hW 0 rfl rfl 4 (by decide) rfl flX0_seenCount rfl dX0_unitsOfStep_8 ?_
      refine xt_iconst C 1 dX0_unitsOfStep_11 (by decide +kernel) ?_
      refine lv_isub C.1 C.2.1 dX0_unitsOfStep_12 ?_
      refine xt_icmp_ge_m C (by omega) (by omega) dX0_unitsOfStep_13 (tgt := 61) (by decide) (fun h13 => ?_) (fun h13 => ?_)
      · refine lv_lload_n C.1 C.2.1 dX0_unitsOfStep_61 rfl (lv_at hl 1 rfl) ?_
        exact xt_lret C hE () hW (by show lN (ms_sum _ i) = lN _; rw [show i = n - 1 by omega]; exact congrArg lN (ms_sum_congr (fun z hz => by rw [hok.1 z f (by omega) hfS, hok.2.1 (z + 1) t (by omega) htS]))) dX0_unitsOfStep_62
      · refine lv_lload_n C.1 C.2.1 dX0_unitsOfStep_16 rfl (lv_at hl 1 rfl) ?_
        refine lv_aload_n C.1 C.2.1 dX0_unitsOfStep_17 rfl (lv_at hl 2 rfl) ?_
        refine xt_get xt_inX0 C hW 0 rfl rfl 6 (by decide) rfl flX0_sumsBefore rfl dX0_unitsOfStep_18 ?_
        refine lv_iload C.1 C.2.1 dX0_unitsOfStep_21 (lv_at hl 0 rfl) ?_
        refine lv_iload_n C.1 C.2.1 dX0_unitsOfStep_23 rfl (lv_at hl 3 rfl) ?_
        refine xt_ci hA hW (xt_runS C hW.1 hW.2.1 cwX0_X0_cell (cx_cell l D cI cL (xX ad cI cL S K n wc dn w lw sy sb sh rw rk dr) i f) rfl hl.1 (rest := [.ref (ad 4), .long (lN (ms_sum (fun z1 => sb (z1 * 3 + f) * xe w sy (z1 + 1) f t * sh ((z1 + 1) * 3 + t)) i))]) rfl (Nat.le_of_ble_eq_true rfl) ⟨(Nat.le_of_ble_eq_true rfl), (Nat.le_of_ble_eq_true rfl)⟩ ⟨Nat.zero_le _, Nat.zero_le _⟩ dX0_unitsOfStep_24) (fun r24 u H locs hp24 hW => ?_)
        replace hW : xt_W D A ss.heap (xX ad cI cL S K n wc dn w lw sy sb sh rw rk dr) H locs := hW
        subst hp24
        refine xt_lald C hW 4 rfl (by decide) dX0_unitsOfStep_27 (by omega) ?_
        refine lv_aload_n C.1 C.2.1 dX0_unitsOfStep_28 rfl (lv_at hl 2 rfl) ?_
        refine lv_iload C.1 C.2.1 dX0_unitsOfStep_29 (lv_at hl 0 rfl) ?_
        refine xt_iconst C 1 dX0_unitsOfStep_31 (by decide +kernel) ?_
        refine xt_iadd C dX0_unitsOfStep_32 ?_
        refine lv_iload_n C.1 C.2.1 dX0_unitsOfStep_33 rfl (lv_at hl 3 rfl) ?_
        refine W.eq (g2 := F0 mi 34 ls [.int (nI f), .int (nI (i + 1)), .ref (ad 0), .long (lN (sb (i * 3 + f))), .long (lN (ms_sum (fun z1 => sb (z1 * 3 + f) * xe w sy (z1 + 1) f t * sh ((z1 + 1) * 3 + t)) i))]) rfl ?_
        refine lv_iload_n C.1 C.2.1 dX0_unitsOfStep_34 rfl (lv_at hl 4 rfl) ?_
        refine xt_cl hA hW (xt_runV C hW.1 hW.2.1 cwX0_X0_entry (cx_entry l D cI cL ad S K n wc dn w lw sy sb sh rw rk dr (i + 1) f t (by omega) (by omega) (by omega) (hw) (hsy _ (by omega))) rfl rfl rfl hl.1 (rest := [.long (lN (sb (i * 3 + f))), .long (lN (ms_sum (fun z1 => sb (z1 * 3 + f) * xe w sy (z1 + 1) f t * sh ((z1 + 1) * 3 + t)) i))]) rfl (Nat.le_of_ble_eq_true rfl) ⟨(Nat.le_of_ble_eq_true rfl), (Nat.le_of_ble_eq_true rfl)⟩ ⟨Nat.zero_le _, Nat.zero_le _⟩ dX0_unitsOfStep_35) (fun r35 u H locs hp35 hW => ?_)
        replace hW : xt_W D A ss.heap (xX ad cI cL S K n wc dn w lw sy sb sh rw rk dr) H locs := hW
        subst hp35
        refine xt_lmul C dX0_unitsOfStep_38 ?_
        refine lv_aload_n C.1 C.2.1 dX0_unitsOfStep_39 rfl (lv_at hl 2 rfl) ?_
        refine xt_get xt_inX0 C hW 0 rfl rfl 7 (by decide) rfl flX0_sumsBehind rfl dX0_unitsOfStep_40 ?_
        refine lv_iload C.1 C.2.1 dX0_unitsOfStep_43 (lv_at hl 0 rfl) ?_
        refine xt_iconst C 1 dX0_unitsOfStep_45 (by decide +kernel) ?_
        refine xt_iadd C dX0_unitsOfStep_46 ?_
        refine lv_iload_n C.1 C.2.1 dX0_unitsOfStep_47 rfl (lv_at hl 4 rfl) ?_
        refine xt_ci hA hW (xt_runS C hW.1 hW.2.1 cwX0_X0_cell (cx_cell l D cI cL (xX ad cI cL S K n wc dn w lw sy sb sh rw rk dr) (i + 1) t) rfl hl.1 (rest := [.ref (ad 5), .long (lN ((sb (i * 3 + f)) * (xe w sy (i + 1) f t))), .long (lN (ms_sum (fun z1 => sb (z1 * 3 + f) * xe w sy (z1 + 1) f t * sh ((z1 + 1) * 3 + t)) i))]) rfl (Nat.le_of_ble_eq_true rfl) ⟨(Nat.le_of_ble_eq_true rfl), (Nat.le_of_ble_eq_true rfl)⟩ ⟨Nat.zero_le _, Nat.zero_le _⟩ dX0_unitsOfStep_48) (fun r48 u H locs hp48 hW => ?_)
        replace hW : xt_W D A ss.heap (xX ad cI cL S K n wc dn w lw sy sb sh rw rk dr) H locs := hW
        subst hp48
        refine xt_lald C hW 5 rfl (by decide) dX0_unitsOfStep_51 (by omega) ?_
        refine xt_lmul C dX0_unitsOfStep_52 ?_
        refine W.eq (g2 := F0 mi 53 ls [.long (lN (((sb (i * 3 + f)) * (xe w sy (i + 1) f t)) * (sh ((i + 1) * 3 + t)))), .long (lN (ms_sum (fun z1 => sb (z1 * 3 + f) * xe w sy (z1 + 1) f t * sh ((z1 + 1) * 3 + t)) i))]) rfl ?_
        refine xt_ladd C dX0_unitsOfStep_53 ?_
        refine lv_lstore_n C.1 C.2.1 dX0_unitsOfStep_54 rfl hl (by decide) rfl (fun ls hl => ?_)
        replace hl : lv_has ls 6 [(3, .long (lN ((ms_sum (fun z1 => sb (z1 * 3 + f) * xe w sy (z1 + 1) f t * sh ((z1 + 1) * 3 + t)) i) + (((sb (i * 3 + f)) * (xe w sy (i + 1) f t)) * (sh ((i + 1) * 3 + t)))))), (5, .int (nI i)), (0, .ref (ad 0)), (1, .int (nI f)), (2, .int (nI t))] := hl
        refine lv_iinc (k := 1) C.1 C.2.1 dX0_unitsOfStep_55 hl rfl xt_inc (by decide) rfl (fun ls hl => ?_)
        replace hl : lv_has ls 6 [(5, .int (nI (i + 1))), (3, .long (lN ((ms_sum (fun z1 => sb (z1 * 3 + f) * xe w sy (z1 + 1) f t * sh ((z1 + 1) * 3 + t)) i) + (((sb (i * 3 + f)) * (xe w sy (i + 1) f t)) * (sh ((i + 1) * 3 + t)))))), (0, .ref (ad 0)), (1, .int (nI f)), (2, .int (nI t))] := hl
        refine lv_goto C.1 C.2.1 dX0_unitsOfStep_58 (tgt := 5) (by decide) ?_
        exact ih5 _ (by omega) (i + 1) rfl (by omega) ls _ _ (lv_sub hl [0, 1, 2, 3, 4] rfl) hW
  exact lp5 _ 0 rfl (Nat.zero_le _) ls _ _ (lv_sub hl [0, 1, 2, 3, 4] rfl) hW
set_option maxHeartbeats 4000000 in
set_option maxRecDepth 100000 in
theorem cx_unitsOfSymbol (l : Launch) (D : va_G) (cI cL : ClassId) (ad : Nat → Nat) (S K n wc dn : Nat) (w lw sy sb sh rw rk dr : Nat → Nat) (f : Nat) (c : Nat) (hV : xq_V S K n wc w lw sy sb sh rw rk) (hfS : f < S) (hc30 : c < 2 ^ 30) : xt_M l yX0_unitsOfSymbol cX0_unitsOfSymbol 6 (some .long) 2 D cI cL [.ref (ad 0), .int (nI f), .int (nI c)] (xX ad cI cL S K n wc dn w lw sy sb sh rw rk dr) (xt_Ql D cI cL (xX ad cI cL S K n wc dn w lw sy sb sh rw rk dr) (fun (r : Int64) (u : Unit) => r = lN (ms_sum (fun z1 => if sy z1 = c then ms_bf (xe w sy) S z1 f * ms_bh (xe w sy) S n (n - 1 - z1) f else 0) n)) (fun u => xX ad cI cL S K n wc dn w lw sy sb sh rw rk dr)) := by
  obtain ⟨hS0, hS3, hK0, hK4, hn6, hw, hlw, hsK, hok⟩ := hV
  have hsy : ∀ p, p < n → sy p < 4 := fun p h => Nat.lt_of_lt_of_le (hsK p h) hK4
  refine xt_start (own := RX0) rfl (by decide) (Nat.le_of_ble_eq_true rfl) (fun pg ev ss mi args below meth cd A Q ls C hE hA hl hW => ?_)
  replace hl : lv_has ls 6 [(0, .ref (ad 0)), (1, .int (nI f)), (2, .int (nI c))] := hl
  refine xt_lconst C 0 dX0_unitsOfSymbol_0 (by decide +kernel) ?_
  refine lv_lstore_n C.1 C.2.1 dX0_unitsOfSymbol_1 rfl hl (by decide) rfl (fun ls hl => ?_)
  replace hl : lv_has ls 6 [(3, .long (lN 0)), (0, .ref (ad 0)), (1, .int (nI f)), (2, .int (nI c))] := hl
  refine xt_iconst C 0 dX0_unitsOfSymbol_2 (by decide +kernel) ?_
  refine lv_istore C.1 C.2.1 dX0_unitsOfSymbol_3 hl (by decide) rfl (fun ls hl => ?_)
  replace hl : lv_has ls 6 [(5, .int (nI 0)), (3, .long (lN 0)), (0, .ref (ad 0)), (1, .int (nI f)), (2, .int (nI c))] := hl
  have lp5 : ∀ (q : Nat) (i : Nat), n - i = q → (i ≤ n) → ∀ (ls : Array Slot) (H : Heap) (locs : List Loc), lv_has ls 6 [(5, .int (nI i)), (3, .long (lN (ms_sum (fun z1 => if sy z1 = c then ms_bf (xe w sy) S z1 f * ms_bh (xe w sy) S n (n - 1 - z1) f else 0) i))), (0, .ref (ad 0)), (1, .int (nI f)), (2, .int (nI c))] → xt_W D A ss.heap (xX ad cI cL S K n wc dn w lw sy sb sh rw rk dr) H locs → W pg l ev (xt_R 2) ss mi args below meth cd H locs 0 0 Q (F0 mi 5 ls []) := by
    intro q
    induction q using Nat.strongRecOn with
    | _ q ih5 =>
      intro i hq5 hi ls H locs hl hW
      refine lv_iload C.1 C.2.1 dX0_unitsOfSymbol_5 (lv_at hl 0 rfl) ?_
      refine lv_aload_n C.1 C.2.1 dX0_unitsOfSymbol_7 rfl (lv_at hl 2 rfl) ?_
      refine xt_get xt_inX0 C hW 0 rfl rfl 4 (by decide) rfl flX0_seenCount rfl dX0_unitsOfSymbol_8 ?_
      refine xt_icmp_ge C (by omega) (by omega) dX0_unitsOfSymbol_11 (tgt := 41) (by decide) (fun h11 => ?_) (fun h11 => ?_)
      · refine lv_lload_n C.1 C.2.1 dX0_unitsOfSymbol_41 rfl (lv_at hl 1 rfl) ?_
        exact xt_lret C hE () hW (by show lN (ms_sum _ i) = lN _; rw [show i = n by omega]) dX0_unitsOfSymbol_42
      · refine lv_aload_n C.1 C.2.1 dX0_unitsOfSymbol_14 rfl (lv_at hl 2 rfl) ?_
        refine xt_get xt_inX0 C hW 0 rfl rfl 5 (by decide) rfl flX0_seenSymbols rfl dX0_unitsOfSymbol_15 ?_
        refine lv_iload C.1 C.2.1 dX0_unitsOfSymbol_18 (lv_at hl 0 rfl) ?_
        refine xt_iald C hW 3 rfl (by decide) dX0_unitsOfSymbol_20 (by omega) ?_
        refine lv_iload_n C.1 C.2.1 dX0_unitsOfSymbol_21 rfl (lv_at hl 4 rfl) ?_
        have hsi := hsy i (by omega)
        refine xt_icmp_ne C (by omega) (by omega) dX0_unitsOfSymbol_22 (tgt := 35) (by decide) (fun h22 => ?_) (fun h22 => ?_)
        · refine lv_iinc (k := 0) C.1 C.2.1 dX0_unitsOfSymbol_35 hl rfl xt_inc (by decide) rfl (fun ls hl => ?_)
          replace hl : lv_has ls 6 [(5, .int (nI (i + 1))), (3, .long (lN (ms_sum (fun z1 => if sy z1 = c then ms_bf (xe w sy) S z1 f * ms_bh (xe w sy) S n (n - 1 - z1) f else 0) i))), (0, .ref (ad 0)), (1, .int (nI f)), (2, .int (nI c))] := hl
          refine lv_goto C.1 C.2.1 dX0_unitsOfSymbol_38 (tgt := 5) (by decide) ?_
          rw [xq_syn h22] at hl
          replace hl : lv_has ls 6 [(5, .int (nI (i + 1))), (3, .long (lN (ms_sum (fun z1 => if sy z1 = c then ms_bf (xe w sy) S z1 f * ms_bh (xe w sy) S n (n - 1 - z1) f else 0) (i + 1)))), (0, .ref (ad 0)), (1, .int (nI f)), (2, .int (nI c))] := hl
          exact ih5 _ (by omega) (i + 1) rfl (by omega) ls _ _ (lv_sub hl [0, 1, 2, 3, 4] rfl) hW
        · refine lv_lload_n C.1 C.2.1 dX0_unitsOfSymbol_25 rfl (lv_at hl 1 rfl) ?_
          refine lv_aload_n C.1 C.2.1 dX0_unitsOfSymbol_26 rfl (lv_at hl 2 rfl) ?_
          refine lv_iload C.1 C.2.1 dX0_unitsOfSymbol_27 (lv_at hl 0 rfl) ?_
          refine lv_iload_n C.1 C.2.1 dX0_unitsOfSymbol_29 rfl (lv_at hl 3 rfl) ?_
          refine xt_cl hA hW (xt_runV C hW.1 hW.2.1 cwX0_X0_unitsThrough (cx_unitsThrough l D cI cL ad S K n wc dn w lw sy sb sh rw rk dr i f (by omega) (by omega) (by omega) (by omega) (hok)) rfl rfl rfl hl.1 (rest := [.long (lN (ms_sum (fun z1 => if sy z1 = c then ms_bf (xe w sy) S z1 f * ms_bh (xe w sy) S n (n - 1 - z1) f else 0) i))]) rfl (Nat.le_of_ble_eq_true rfl) ⟨(Nat.le_of_ble_eq_true rfl), (Nat.le_of_ble_eq_true rfl)⟩ ⟨Nat.zero_le _, Nat.zero_le _⟩ dX0_unitsOfSymbol_30) (fun r30 u H locs hp30 hW => ?_)
          replace hW : xt_W D A ss.heap (xX ad cI cL S K n wc dn w lw sy sb sh rw rk dr) H locs := hW
          subst hp30
          refine xt_ladd C dX0_unitsOfSymbol_33 ?_
          refine lv_lstore_n C.1 C.2.1 dX0_unitsOfSymbol_34 rfl hl (by decide) rfl (fun ls hl => ?_)
          replace hl : lv_has ls 6 [(3, .long (lN ((ms_sum (fun z1 => if sy z1 = c then ms_bf (xe w sy) S z1 f * ms_bh (xe w sy) S n (n - 1 - z1) f else 0) i) + (if i < n then ms_bf (xe w sy) S i f * ms_bh (xe w sy) S n (n - 1 - i) f else 0)))), (5, .int (nI i)), (0, .ref (ad 0)), (1, .int (nI f)), (2, .int (nI c))] := hl
          refine lv_iinc (k := 1) C.1 C.2.1 dX0_unitsOfSymbol_35 hl rfl xt_inc (by decide) rfl (fun ls hl => ?_)
          replace hl : lv_has ls 6 [(5, .int (nI (i + 1))), (3, .long (lN ((ms_sum (fun z1 => if sy z1 = c then ms_bf (xe w sy) S z1 f * ms_bh (xe w sy) S n (n - 1 - z1) f else 0) i) + (if i < n then ms_bf (xe w sy) S i f * ms_bh (xe w sy) S n (n - 1 - i) f else 0)))), (0, .ref (ad 0)), (1, .int (nI f)), (2, .int (nI c))] := hl
          refine lv_goto C.1 C.2.1 dX0_unitsOfSymbol_38 (tgt := 5) (by decide) ?_
          rw [xq_sym (by omega) h22] at hl
          replace hl : lv_has ls 6 [(5, .int (nI (i + 1))), (3, .long (lN (ms_sum (fun z1 => if sy z1 = c then ms_bf (xe w sy) S z1 f * ms_bh (xe w sy) S n (n - 1 - z1) f else 0) (i + 1)))), (0, .ref (ad 0)), (1, .int (nI f)), (2, .int (nI c))] := hl
          exact ih5 _ (by omega) (i + 1) rfl (by omega) ls _ _ (lv_sub hl [0, 1, 2, 3, 4] rfl) hW
  exact lp5 _ 0 rfl (Nat.zero_le _) ls _ _ (lv_sub hl [0, 1, 2, 3, 4] rfl) hW
