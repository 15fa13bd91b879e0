theorem lw_cmp {L i : Nat} (hL : L ≤ 2560) (hi : i ≤ 2560) (h : ¬ nI L - nI 5 < nI i) : i + 5 ≤ L := by
  rw [Int32.lt_iff_toInt_lt, pk_sub_toInt (by omega) (by omega), nI_toInt (by omega)] at h
  omega
theorem rl_init {wc : Nat} {w sb sh rw rk wm : Nat → Nat} (h1 : ∀ j, j < 36 → w j = 1) (h2 : xq_ok 1 0 w (fun _ => 0) sb sh wc rw rk) (h3 : ∀ j, j < 24 → wm j = 1) : rl_R 1 1 0 wc 0 w (fun _ => 0) (fun _ => 0) sb sh rw rk (fun _ => 0) 0 0 wm (fun _ => 0) (fun _ => 0) := by
  refine ⟨⟨by decide, by decide, by decide, by decide, by decide, fun i hi => by rw [h1 i hi]; decide, fun i _ => Nat.zero_le _, fun p hp => absurd hp (Nat.not_lt_zero p), h2⟩, ⟨by decide, by decide, by decide, by decide, by decide, fun i hi => by rw [h3 i hi]; decide, fun p hp => absurd hp (Nat.not_lt_zero p)⟩, fun x y z hk => ?_, fun p hp => absurd hp (Nat.not_lt_zero p), ⟨by decide, by decide⟩, Or.inr ⟨rfl, rfl⟩⟩
  rw [h1 _ (xq_slb (by decide) (by decide) hk), h3 _ (mq_slb (by decide) (by decide) hk)]
set_option maxHeartbeats 4000000 in
set_option maxRecDepth 100000 in
theorem lw_loop {pg : Program} {l : Launch} {ev : Env} {ss : State} {mi : MethodId} {below : List Frame} {meth : Method} {cd : Code} {D : va_G} {cI cL : ClassId} {A : Nat → Prop} {Q : State → Prop} {b L : Nat} {xs : Nat → Int32} {ad am : Nat → Nat} (KK : lw_K pg ss mi cd D cI cL A b L xs) (hEnd : ∀ (ls : Array Slot) (H : Heap) (locs : List Loc), (∀ q ∈ locs, A q.base) → W pg l ev room_1 ss mi #[Value.ref b] below meth cd H locs 16 965 Q (F0 mi 686 ls [])) :
    ∀ (mq0 i : Nat) (S K n wc dn : Nat) (w lw sy sb sh rw rk dr : Nat → Nat) (iz dz tp bt : Nat) (wm ro wa ch al fr : Nat → Nat), L - i = mq0 → i ≤ L → ∀ (ls : Array Slot) (H : Heap) (locs : List Loc), rl_R S K n wc dn w lw sy sb sh rw rk dr iz dz wm ro ch → lv_has ls 4 [(3, .int (nI i)), (0, .ref b), (1, .ref (ad 0)), (2, .ref (am 0))] → xt_W D A ss.heap (xX ad cI cL S K n wc dn w lw sy sb sh rw rk dr ++ xM am cI cL S K n iz dz tp bt wm ro wa ch al fr) H locs → W pg l ev room_1 ss mi #[Value.ref b] below meth cd H locs 16 965 Q (F0 mi 18 ls []) := by
  intro mq0
  induction mq0 using Nat.strongRecOn with
  | _ mq0 ihq =>
    intro i S K n wc dn w lw sy sb sh rw rk dr iz dz tp bt wm ro wa ch al fr hq hi ls H locs hR hl hW
    have KK2 := KK
    obtain ⟨C, hX, hbl, hbA, hA, hL⟩ := KK2
    refine lv_iload_n C.1 C.2.1 dL_law_18 rfl (lv_at hl 0 rfl) ?_
    refine lv_aload_n C.1 C.2.1 dL_law_19 rfl (lv_at hl 1 rfl) ?_
    refine va_slen C.1 C.2.1 hX hbl hbA hW.2.2 dL_law_20 ?_
    refine xt_iconst C 5 dL_law_21 (by decide +kernel) ?_
    refine lv_isub C.1 C.2.1 dL_law_22 ?_
    refine lv_icmp_gt C.1 C.2.1 dL_law_23 (tgt := 686) (by decide) (fun _ => hEnd ls H locs hW.2.2.2.2) (fun h23 => ?_)
    have hi5 : i + 5 ≤ L := lw_cmp hL (by omega) h23
    refine lv_aload_n C.1 C.2.1 dL_law_26 rfl (lv_at hl 1 rfl) ?_
    refine lv_iload_n C.1 C.2.1 dL_law_27 rfl (lv_at hl 0 rfl) ?_
    refine xt_sld C hX hbl hbA hW (by omega) hL dL_law_28 ?_
    refine xt_bipush C 31 dL_law_29 (by decide +kernel) ?_
    refine lv_iand C.1 C.2.1 dL_law_31 ?_
    obtain ⟨j, hj, ej⟩ := pk_andE (xs i) (m := nI 31) 5 (by decide)
    rw [ej]
    have ih : lw_I pg l ev ss mi b below meth cd D cI cL ad am A Q i := by
      intro S K n wc dn w lw sy sb sh rw rk dr iz dz tp bt wm ro wa ch al fr ls H locs hR hl hW
      refine lv_iinc (k := 0) C.1 C.2.1 dL_law_680 hl rfl xt_inc5 (by decide) rfl (fun ls hl => ?_)
      refine lv_goto C.1 C.2.1 dL_law_683 (tgt := 18) (by decide) ?_
      exact ihq _ (show L - (i + 5) < mq0 by omega) (i + 5) S K n wc dn w lw sy sb sh rw rk dr iz dz tp bt wm ro wa ch al fr rfl (by omega) ls H locs hR (lv_sub hl [0, 1, 2, 3] rfl) hW
    rcases (show j = 0 ∨ j = 1 ∨ j = 2 ∨ j = 3 ∨ j = 4 ∨ j = 5 ∨ j = 6 ∨ j = 7 ∨ j = 8 ∨ j = 9 ∨ j = 10 ∨ j = 11 ∨ j = 12 ∨ j = 13 ∨ j = 14 ∨ j = 15 ∨ j = 16 ∨ j = 17 ∨ 18 ≤ j by omega) with rfl | rfl | rfl | rfl | rfl | rfl | rfl | rfl | rfl | rfl | rfl | rfl | rfl | rfl | rfl | rfl | rfl | rfl | h18
    · refine lv_tableIn C.1 C.2.1 dL_law_32 (off := 88) (tgt := 120) (by decide +kernel) (by decide +kernel) (by decide +kernel) (by decide) ?_
      exact lw_c0 KK hi5 ih hR hl hW
    · refine lv_tableIn C.1 C.2.1 dL_law_32 (off := 121) (tgt := 153) (by decide +kernel) (by decide +kernel) (by decide +kernel) (by decide) ?_
      exact lw_c1 KK hi5 ih hR hl hW
    · refine lv_tableIn C.1 C.2.1 dL_law_32 (off := 174) (tgt := 206) (by decide +kernel) (by decide +kernel) (by decide +kernel) (by decide) ?_
      exact lw_c2 KK hi5 ih hR hl hW
    · refine lv_tableIn C.1 C.2.1 dL_law_32 (off := 217) (tgt := 249) (by decide +kernel) (by decide +kernel) (by decide +kernel) (by decide) ?_
      exact lw_c3 KK hi5 ih hR hl hW
    · refine lv_tableIn C.1 C.2.1 dL_law_32 (off := 240) (tgt := 272) (by decide +kernel) (by decide +kernel) (by decide +kernel) (by decide) ?_
      exact lw_c4 KK hi5 ih hR hl hW
    · refine lv_tableIn C.1 C.2.1 dL_law_32 (off := 263) (tgt := 295) (by decide +kernel) (by decide +kernel) (by decide +kernel) (by decide) ?_
      exact lw_c5 KK hi5 ih hR hl hW
    · refine lv_tableIn C.1 C.2.1 dL_law_32 (off := 276) (tgt := 308) (by decide +kernel) (by decide +kernel) (by decide +kernel) (by decide) ?_
      exact lw_c6 KK hi5 ih hR hl hW
    · refine lv_tableIn C.1 C.2.1 dL_law_32 (off := 299) (tgt := 331) (by decide +kernel) (by decide +kernel) (by decide +kernel) (by decide) ?_
      exact lw_c7 KK hi5 ih hR hl hW
    · refine lv_tableIn C.1 C.2.1 dL_law_32 (off := 313) (tgt := 345) (by decide +kernel) (by decide +kernel) (by decide +kernel) (by decide) ?_
      exact lw_c8 KK hi5 ih hR hl hW
    · refine lv_tableIn C.1 C.2.1 dL_law_32 (off := 347) (tgt := 379) (by decide +kernel) (by decide +kernel) (by decide +kernel) (by decide) ?_
      exact lw_c9 KK hi5 ih hR hl hW
    · refine lv_tableIn C.1 C.2.1 dL_law_32 (off := 381) (tgt := 413) (by decide +kernel) (by decide +kernel) (by decide +kernel) (by decide) ?_
      exact lw_c10 KK hi5 ih hR hl hW
    · refine lv_tableIn C.1 C.2.1 dL_law_32 (off := 394) (tgt := 426) (by decide +kernel) (by decide +kernel) (by decide +kernel) (by decide) ?_
      exact lw_c11 KK hi5 ih hR hl hW
    · refine lv_tableIn C.1 C.2.1 dL_law_32 (off := 418) (tgt := 450) (by decide +kernel) (by decide +kernel) (by decide +kernel) (by decide) ?_
      exact lw_c12 KK hi5 ih hR hl hW
    · refine lv_tableIn C.1 C.2.1 dL_law_32 (off := 451) (tgt := 483) (by decide +kernel) (by decide +kernel) (by decide +kernel) (by decide) ?_
      exact lw_c13 KK hi5 ih hR hl hW
    · refine lv_tableIn C.1 C.2.1 dL_law_32 (off := 505) (tgt := 537) (by decide +kernel) (by decide +kernel) (by decide +kernel) (by decide) ?_
      exact lw_c14 KK hi5 ih hR hl hW
    · refine lv_tableIn C.1 C.2.1 dL_law_32 (off := 559) (tgt := 591) (by decide +kernel) (by decide +kernel) (by decide +kernel) (by decide) ?_
      exact lw_c15 KK hi5 ih hR hl hW
    · refine lv_tableIn C.1 C.2.1 dL_law_32 (off := 572) (tgt := 604) (by decide +kernel) (by decide +kernel) (by decide +kernel) (by decide) ?_
      exact lw_c16 KK hi5 ih hR hl hW
    · refine lv_tableIn C.1 C.2.1 dL_law_32 (off := 625) (tgt := 657) (by decide +kernel) (by decide +kernel) (by decide +kernel) (by decide) ?_
      exact lw_c17 KK hi5 ih hR hl hW
    · refine lv_tableOut C.1 C.2.1 dL_law_32 (Or.inr ?_) (tgt := 680) (by decide) ?_
      · rw [nI_toInt (by omega)]
        omega
      · exact ih S K n wc dn w lw sy sb sh rw rk dr iz dz tp bt wm ro wa ch al fr ls H locs hR hl hW
