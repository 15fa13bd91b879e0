set_option maxHeartbeats 4000000 in
set_option maxRecDepth 100000 in
theorem lw_c9 {pg : Program} {l : Launch} {ev : Env} {ss : State} {mi : MethodId} {below : List Frame} {meth : Method} {cd : Code} {D : va_G} {cI cL : ClassId} {A : Nat → Prop} {Q : State → Prop} {b L : Nat} {xs : Nat → Int32} {ad am : Nat → Nat} (KK : lw_K pg ss mi cd D cI cL A b L xs) {i : Nat} (hi : i + 5 ≤ L) (ih : lw_I pg l ev ss mi b below meth cd D cI cL ad am A Q i) {S K n wc dn : Nat} {w lw sy sb sh rw rk dr : Nat → Nat} {iz dz tp bt : Nat} {wm ro wa ch al fr : Nat → Nat} {ls : Array Slot} {H : Heap} {locs : List Loc} (hR : rl_R S K n wc dn w lw sy sb sh rw rk dr iz dz wm ro ch) (hl : lv_has ls 4 [(3, .int (nI i)), (0, .ref b), (1, .ref (ad 0)), (2, .ref (am 0))]) (hW : xt_W D A ss.heap (xX ad cI cL S K n wc dn w lw sy sb sh rw rk dr ++ xM am cI cL S K n iz dz tp bt wm ro wa ch al fr) H locs) : W pg l ev room_1 ss mi #[Value.ref b] below meth cd H locs 16 965 Q (F0 mi 379 ls []) := by
  obtain ⟨C, hX, hbl, hbA, hA, hL⟩ := KK
  have hR2 := hR
  obtain ⟨hV, hM, g1, g2, g3, g4⟩ := hR2
  have hV2 := hV
  obtain ⟨hS0, hS3, hK0, hK4, hn6, hw, hlw, hsK, hok⟩ := hV2
  have he := rl_e hsK g1 g2
  by_cases hy : (∃ j, j < n ∧ xs (i + 1) = nI j) ∧ ∃ j, j < S ∧ xs (i + 2) = nI j
  · obtain ⟨⟨p, hp, e1⟩, q, hq, e2⟩ := hy
    refine lv_aload_n C.1 C.2.1 dL_law_379 rfl (lv_at hl 2 rfl) ?_
    refine lv_aload_n C.1 C.2.1 dL_law_380 rfl (lv_at hl 1 rfl) ?_
    refine lv_iload_n C.1 C.2.1 dL_law_381 rfl (lv_at hl 0 rfl) ?_
    refine xt_iconst C 1 dL_law_382 (by decide +kernel) ?_
    refine xt_iadd C dL_law_383 ?_
    refine xt_sld C hX hbl hbA hW (by omega) hL dL_law_384 ?_
    refine lv_aload_n C.1 C.2.1 dL_law_385 rfl (lv_at hl 1 rfl) ?_
    refine lv_iload_n C.1 C.2.1 dL_law_386 rfl (lv_at hl 0 rfl) ?_
    refine xt_iconst C 2 dL_law_387 (by decide +kernel) ?_
    refine xt_iadd C dL_law_388 ?_
    refine xt_sld C hX hbl hbA hW (by omega) hL dL_law_389 ?_
    rw [e1, e2]
    refine xt_clL hA hW (xt_runV C (xt_PL hW.1) (xt_DL hW.2.1) cwL_X0_behind (cx_behind_y l D cI cL ad S K n wc dn w lw sy sb sh rw rk dr p q (hV) (hp) (hq)) rfl rfl rfl hl.1 (rest := []) rfl (Nat.le_of_ble_eq_true rfl) ⟨(Nat.le_of_ble_eq_true rfl), (Nat.le_of_ble_eq_true rfl)⟩ ⟨(Nat.le_of_ble_eq_true rfl), (Nat.le_of_ble_eq_true rfl)⟩ dL_law_390) (fun rx u H locs hpx hW => ?_)
    replace hW : xt_W D A ss.heap (xX ad cI cL S K n wc dn w lw sy sb sh rw rk dr ++ xM am cI cL S K n iz dz tp bt wm ro wa ch al fr) H locs := hW
    subst hpx
    refine lv_aload_n C.1 C.2.1 dL_law_393 rfl (lv_at hl 3 rfl) ?_
    refine lv_aload_n C.1 C.2.1 dL_law_394 rfl (lv_at hl 1 rfl) ?_
    refine lv_iload_n C.1 C.2.1 dL_law_395 rfl (lv_at hl 0 rfl) ?_
    refine xt_iconst C 1 dL_law_396 (by decide +kernel) ?_
    refine xt_iadd C dL_law_397 ?_
    refine xt_sld C hX hbl hbA hW (by omega) hL dL_law_398 ?_
    refine lv_aload_n C.1 C.2.1 dL_law_399 rfl (lv_at hl 1 rfl) ?_
    refine lv_iload_n C.1 C.2.1 dL_law_400 rfl (lv_at hl 0 rfl) ?_
    refine xt_iconst C 2 dL_law_401 (by decide +kernel) ?_
    refine xt_iadd C dL_law_402 ?_
    refine xt_sld C hX hbl hbA hW (by omega) hL dL_law_403 ?_
    rw [e1, e2]
    refine xt_clR hA hW (xt_runV C (xt_PR hW.1) (xt_DR hW.2.1) cwL_X1_behind (cm_behind_y l D cI cL am S K n iz dz tp bt wm ro wa ch al fr p q (hM) (hp) (hq)) rfl rfl rfl hl.1 (rest := [.long (lN (ms_bh (xe w sy) S n (n - 1 - p) q))]) rfl (Nat.le_of_ble_eq_true rfl) ⟨(Nat.le_of_ble_eq_true rfl), (Nat.le_of_ble_eq_true rfl)⟩ ⟨(Nat.le_of_ble_eq_true rfl), (Nat.le_of_ble_eq_true rfl)⟩ dL_law_404) (fun rm u H locs hpm hW => ?_)
    obtain ⟨wa_m, rfl⟩ : ∃ z, z = u := ⟨_, rfl⟩
    replace hW : xt_W D A ss.heap (xX ad cI cL S K n wc dn w lw sy sb sh rw rk dr ++ xM am cI cL S K n iz dz tp bt wm ro wa_m ch al fr) H locs := hW
    subst hpm
    rw [ms_bh_congr he (show n - 1 - p < n by omega) hq]
    refine W.lcmp C.1 C.2.1 dL_law_407 ?_
    refine lv_if_eq C.1 C.2.1 dL_law_408 (tgt := 680) (by decide) (fun _ => ?_) (fun h => absurd ((lg_cmp_eq _ _).mpr rfl) h)
    exact ih S K n wc dn w lw sy sb sh rw rk dr iz dz tp bt wm ro wa_m ch al fr ls H locs (hR) hl hW
  · refine lv_aload_n C.1 C.2.1 dL_law_379 rfl (lv_at hl 2 rfl) ?_
    refine lv_aload_n C.1 C.2.1 dL_law_380 rfl (lv_at hl 1 rfl) ?_
    refine lv_iload_n C.1 C.2.1 dL_law_381 rfl (lv_at hl 0 rfl) ?_
    refine xt_iconst C 1 dL_law_382 (by decide +kernel) ?_
    refine xt_iadd C dL_law_383 ?_
    refine xt_sld C hX hbl hbA hW (by omega) hL dL_law_384 ?_
    refine lv_aload_n C.1 C.2.1 dL_law_385 rfl (lv_at hl 1 rfl) ?_
    refine lv_iload_n C.1 C.2.1 dL_law_386 rfl (lv_at hl 0 rfl) ?_
    refine xt_iconst C 2 dL_law_387 (by decide +kernel) ?_
    refine xt_iadd C dL_law_388 ?_
    refine xt_sld C hX hbl hbA hW (by omega) hL dL_law_389 ?_
    refine xt_clL hA hW (xt_runV C (xt_PL hW.1) (xt_DL hW.2.1) cwL_X0_behind (cx_behind_n l D cI cL ad S K n wc dn w lw sy sb sh rw rk dr (xs (i + 1)) (xs (i + 2)) (hV) (hy)) rfl rfl rfl hl.1 (rest := []) rfl (Nat.le_of_ble_eq_true rfl) ⟨(Nat.le_of_ble_eq_true rfl), (Nat.le_of_ble_eq_true rfl)⟩ ⟨(Nat.le_of_ble_eq_true rfl), (Nat.le_of_ble_eq_true rfl)⟩ dL_law_390) (fun rx u H locs hpx hW => ?_)
    replace hW : xt_W D A ss.heap (xX ad cI cL S K n wc dn w lw sy sb sh rw rk dr ++ xM am cI cL S K n iz dz tp bt wm ro wa ch al fr) H locs := hW
    subst hpx
    refine lv_aload_n C.1 C.2.1 dL_law_393 rfl (lv_at hl 3 rfl) ?_
    refine lv_aload_n C.1 C.2.1 dL_law_394 rfl (lv_at hl 1 rfl) ?_
    refine lv_iload_n C.1 C.2.1 dL_law_395 rfl (lv_at hl 0 rfl) ?_
    refine xt_iconst C 1 dL_law_396 (by decide +kernel) ?_
    refine xt_iadd C dL_law_397 ?_
    refine xt_sld C hX hbl hbA hW (by omega) hL dL_law_398 ?_
    refine lv_aload_n C.1 C.2.1 dL_law_399 rfl (lv_at hl 1 rfl) ?_
    refine lv_iload_n C.1 C.2.1 dL_law_400 rfl (lv_at hl 0 rfl) ?_
    refine xt_iconst C 2 dL_law_401 (by decide +kernel) ?_
    refine xt_iadd C dL_law_402 ?_
    refine xt_sld C hX hbl hbA hW (by omega) hL dL_law_403 ?_
    refine xt_clR hA hW (xt_runV C (xt_PR hW.1) (xt_DR hW.2.1) cwL_X1_behind (cm_behind_n l D cI cL am S K n iz dz tp bt wm ro wa ch al fr (xs (i + 1)) (xs (i + 2)) (hM) (hy)) rfl rfl rfl hl.1 (rest := [.long (lN 0)]) rfl (Nat.le_of_ble_eq_true rfl) ⟨(Nat.le_of_ble_eq_true rfl), (Nat.le_of_ble_eq_true rfl)⟩ ⟨(Nat.le_of_ble_eq_true rfl), (Nat.le_of_ble_eq_true rfl)⟩ dL_law_404) (fun rm u H locs hpm hW => ?_)
    replace hW : xt_W D A ss.heap (xX ad cI cL S K n wc dn w lw sy sb sh rw rk dr ++ xM am cI cL S K n iz dz tp bt wm ro wa ch al fr) H locs := hW
    subst hpm
    refine W.lcmp C.1 C.2.1 dL_law_407 ?_
    refine lv_if_eq C.1 C.2.1 dL_law_408 (tgt := 680) (by decide) (fun _ => ?_) (fun h => absurd ((lg_cmp_eq _ _).mpr rfl) h)
    exact ih S K n wc dn w lw sy sb sh rw rk dr iz dz tp bt wm ro wa ch al fr ls H locs (hR) hl hW
set_option maxHeartbeats 4000000 in
set_option maxRecDepth 100000 in
theorem lw_c10 {pg : Program} {l : Launch} {ev : Env} {ss : State} {mi : MethodId} {below : List Frame} {meth : Method} {cd : Code} {D : va_G} {cI cL : ClassId} {A : Nat → Prop} {Q : State → Prop} {b L : Nat} {xs : Nat → Int32} {ad am : Nat → Nat} (KK : lw_K pg ss mi cd D cI cL A b L xs) {i : Nat} (hi : i + 5 ≤ L) (ih : lw_I pg l ev ss mi b below meth cd D cI cL ad am A Q i) {S K n wc dn : Nat} {w lw sy sb sh rw rk dr : Nat → Nat} {iz dz tp bt : Nat} {wm ro wa ch al fr : Nat → Nat} {ls : Array Slot} {H : Heap} {locs : List Loc} (hR : rl_R S K n wc dn w lw sy sb sh rw rk dr iz dz wm ro ch) (hl : lv_has ls 4 [(3, .int (nI i)), (0, .ref b), (1, .ref (ad 0)), (2, .ref (am 0))]) (hW : xt_W D A ss.heap (xX ad cI cL S K n wc dn w lw sy sb sh rw rk dr ++ xM am cI cL S K n iz dz tp bt wm ro wa ch al fr) H locs) : W pg l ev room_1 ss mi #[Value.ref b] below meth cd H locs 16 965 Q (F0 mi 413 ls []) := by
  obtain ⟨C, hX, hbl, hbA, hA, hL⟩ := KK
  have hR2 := hR
  obtain ⟨hV, hM, g1, g2, g3, g4⟩ := hR2
  have hV2 := hV
  obtain ⟨hS0, hS3, hK0, hK4, hn6, hw, hlw, hsK, hok⟩ := hV2
  have he := rl_e hsK g1 g2
  obtain ⟨-, -, g, hg⟩ := hok
  rw [rl_we hS0 he] at hg
  refine lv_aload_n C.1 C.2.1 dL_law_413 rfl (lv_at hl 2 rfl) ?_
  refine xt_ciL hA hW (xt_runV C (xt_PL hW.1) (xt_DL hW.2.1) cwL_X0_ways (cx_ways l D cI cL ad S K n wc dn w lw sy sb sh rw rk dr) rfl rfl rfl hl.1 (rest := []) rfl (Nat.le_of_ble_eq_true rfl) ⟨(Nat.le_of_ble_eq_true rfl), (Nat.le_of_ble_eq_true rfl)⟩ ⟨(Nat.le_of_ble_eq_true rfl), (Nat.le_of_ble_eq_true rfl)⟩ dL_law_414) (fun rx u H locs hpx hW => ?_)
  replace hW : xt_W D A ss.heap (xX ad cI cL S K n wc dn w lw sy sb sh rw rk dr ++ xM am cI cL S K n iz dz tp bt wm ro wa ch al fr) H locs := hW
  subst hpx
  refine lv_aload_n C.1 C.2.1 dL_law_417 rfl (lv_at hl 3 rfl) ?_
  refine xt_ciR hA hW (xt_runV C (xt_PR hW.1) (xt_DR hW.2.1) cwL_X1_ways (cm_ways l D cI cL am S K n iz dz tp bt wm ro wa ch al fr (hM)) rfl rfl rfl hl.1 (rest := [.int (nI wc)]) rfl (Nat.le_of_ble_eq_true rfl) ⟨(Nat.le_of_ble_eq_true rfl), (Nat.le_of_ble_eq_true rfl)⟩ ⟨(Nat.le_of_ble_eq_true rfl), (Nat.le_of_ble_eq_true rfl)⟩ dL_law_418) (fun rm u H locs hpm hW => ?_)
  obtain ⟨wa_m, rfl⟩ : ∃ z, z = u := ⟨_, rfl⟩
  replace hW : xt_W D A ss.heap (xX ad cI cL S K n wc dn w lw sy sb sh rw rk dr ++ xM am cI cL S K n iz dz tp bt wm ro wa_m ch al fr) H locs := hW
  subst hpm
  rw [← hg.1]
  refine lv_icmp_eq C.1 C.2.1 dL_law_421 (tgt := 680) (by decide) (fun _ => ?_) (fun h => absurd rfl h)
  exact ih S K n wc dn w lw sy sb sh rw rk dr iz dz tp bt wm ro wa_m ch al fr ls H locs (hR) hl hW
set_option maxHeartbeats 4000000 in
set_option maxRecDepth 100000 in
theorem lw_c11 {pg : Program} {l : Launch} {ev : Env} {ss : State} {mi : MethodId} {below : List Frame} {meth : Method} {cd : Code} {D : va_G} {cI cL : ClassId} {A : Nat → Prop} {Q : State → Prop} {b L : Nat} {xs : Nat → Int32} {ad am : Nat → Nat} (KK : lw_K pg ss mi cd D cI cL A b L xs) {i : Nat} (hi : i + 5 ≤ L) (ih : lw_I pg l ev ss mi b below meth cd D cI cL ad am A Q i) {S K n wc dn : Nat} {w lw sy sb sh rw rk dr : Nat → Nat} {iz dz tp bt : Nat} {wm ro wa ch al fr : Nat → Nat} {ls : Array Slot} {H : Heap} {locs : List Loc} (hR : rl_R S K n wc dn w lw sy sb sh rw rk dr iz dz wm ro ch) (hl : lv_has ls 4 [(3, .int (nI i)), (0, .ref b), (1, .ref (ad 0)), (2, .ref (am 0))]) (hW : xt_W D A ss.heap (xX ad cI cL S K n wc dn w lw sy sb sh rw rk dr ++ xM am cI cL S K n iz dz tp bt wm ro wa ch al fr) H locs) : W pg l ev room_1 ss mi #[Value.ref b] below meth cd H locs 16 965 Q (F0 mi 426 ls []) := by
  obtain ⟨C, hX, hbl, hbA, hA, hL⟩ := KK
  have hR2 := hR
  obtain ⟨hV, hM, g1, g2, g3, g4⟩ := hR2
  have hV2 := hV
  obtain ⟨hS0, hS3, hK0, hK4, hn6, hw, hlw, hsK, hok⟩ := hV2
  have he := rl_e hsK g1 g2
  obtain ⟨-, -, g, hg⟩ := hok
  rw [rl_we hS0 he] at hg
  by_cases hy : ∃ j, j < min wc 12 ∧ xs (i + 1) = nI j
  · obtain ⟨j, hj, e1⟩ := hy
    refine lv_aload_n C.1 C.2.1 dL_law_426 rfl (lv_at hl 2 rfl) ?_
    refine lv_aload_n C.1 C.2.1 dL_law_427 rfl (lv_at hl 1 rfl) ?_
    refine lv_iload_n C.1 C.2.1 dL_law_428 rfl (lv_at hl 0 rfl) ?_
    refine xt_iconst C 1 dL_law_429 (by decide +kernel) ?_
    refine xt_iadd C dL_law_430 ?_
    refine xt_sld C hX hbl hbA hW (by omega) hL dL_law_431 ?_
    rw [e1]
    refine xt_clL hA hW (xt_runV C (xt_PL hW.1) (xt_DL hW.2.1) cwL_X0_ranked (cx_ranked_y l D cI cL ad S K n wc dn w lw sy sb sh rw rk dr j (hV) (hj)) rfl rfl rfl hl.1 (rest := []) rfl (Nat.le_of_ble_eq_true rfl) ⟨(Nat.le_of_ble_eq_true rfl), (Nat.le_of_ble_eq_true rfl)⟩ ⟨(Nat.le_of_ble_eq_true rfl), (Nat.le_of_ble_eq_true rfl)⟩ dL_law_432) (fun rx u H locs hpx hW => ?_)
    replace hW : xt_W D A ss.heap (xX ad cI cL S K n wc dn w lw sy sb sh rw rk dr ++ xM am cI cL S K n iz dz tp bt wm ro wa ch al fr) H locs := hW
    subst hpx
    refine lv_aload_n C.1 C.2.1 dL_law_435 rfl (lv_at hl 3 rfl) ?_
    refine lv_aload_n C.1 C.2.1 dL_law_436 rfl (lv_at hl 1 rfl) ?_
    refine lv_iload_n C.1 C.2.1 dL_law_437 rfl (lv_at hl 0 rfl) ?_
    refine xt_iconst C 1 dL_law_438 (by decide +kernel) ?_
    refine xt_iadd C dL_law_439 ?_
    refine xt_sld C hX hbl hbA hW (by omega) hL dL_law_440 ?_
    rw [e1]
    refine xt_clR hA hW (xt_runV C (xt_PR hW.1) (xt_DR hW.2.1) cwL_X1_ranked (cm_ranked_y l D cI cL am S K n iz dz tp bt wm ro wa ch al fr j wc rw rk g (ms_pk S n) (hM) (hj) (hg)) rfl rfl rfl hl.1 (rest := [.long (lN (rw j))]) rfl (Nat.le_of_ble_eq_true rfl) ⟨(Nat.le_of_ble_eq_true rfl), (Nat.le_of_ble_eq_true rfl)⟩ ⟨(Nat.le_of_ble_eq_true rfl), (Nat.le_of_ble_eq_true rfl)⟩ dL_law_441) (fun rm u H locs hpm hW => ?_)
    obtain ⟨wa_m, al_m⟩ := u
    replace hW : xt_W D A ss.heap (xX ad cI cL S K n wc dn w lw sy sb sh rw rk dr ++ xM am cI cL S K n iz dz tp bt wm ro wa_m ch al_m fr) H locs := hW
    subst hpm
    rw [(hg.2.1 j (by omega) (by omega)).2.2.1]
    refine W.lcmp C.1 C.2.1 dL_law_444 ?_
    refine lv_if_eq C.1 C.2.1 dL_law_445 (tgt := 680) (by decide) (fun _ => ?_) (fun h => absurd ((lg_cmp_eq _ _).mpr rfl) h)
    exact ih S K n wc dn w lw sy sb sh rw rk dr iz dz tp bt wm ro wa_m ch al_m fr ls H locs (hR) hl hW
  · refine lv_aload_n C.1 C.2.1 dL_law_426 rfl (lv_at hl 2 rfl) ?_
    refine lv_aload_n C.1 C.2.1 dL_law_427 rfl (lv_at hl 1 rfl) ?_
    refine lv_iload_n C.1 C.2.1 dL_law_428 rfl (lv_at hl 0 rfl) ?_
    refine xt_iconst C 1 dL_law_429 (by decide +kernel) ?_
    refine xt_iadd C dL_law_430 ?_
    refine xt_sld C hX hbl hbA hW (by omega) hL dL_law_431 ?_
    refine xt_clL hA hW (xt_runV C (xt_PL hW.1) (xt_DL hW.2.1) cwL_X0_ranked (cx_ranked_n l D cI cL ad S K n wc dn w lw sy sb sh rw rk dr (xs (i + 1)) (hV) (hy)) rfl rfl rfl hl.1 (rest := []) rfl (Nat.le_of_ble_eq_true rfl) ⟨(Nat.le_of_ble_eq_true rfl), (Nat.le_of_ble_eq_true rfl)⟩ ⟨(Nat.le_of_ble_eq_true rfl), (Nat.le_of_ble_eq_true rfl)⟩ dL_law_432) (fun rx u H locs hpx hW => ?_)
    replace hW : xt_W D A ss.heap (xX ad cI cL S K n wc dn w lw sy sb sh rw rk dr ++ xM am cI cL S K n iz dz tp bt wm ro wa ch al fr) H locs := hW
    subst hpx
    refine lv_aload_n C.1 C.2.1 dL_law_435 rfl (lv_at hl 3 rfl) ?_
    refine lv_aload_n C.1 C.2.1 dL_law_436 rfl (lv_at hl 1 rfl) ?_
    refine lv_iload_n C.1 C.2.1 dL_law_437 rfl (lv_at hl 0 rfl) ?_
    refine xt_iconst C 1 dL_law_438 (by decide +kernel) ?_
    refine xt_iadd C dL_law_439 ?_
    refine xt_sld C hX hbl hbA hW (by omega) hL dL_law_440 ?_
    refine xt_clR hA hW (xt_runV C (xt_PR hW.1) (xt_DR hW.2.1) cwL_X1_ranked (cm_ranked_n l D cI cL am S K n iz dz tp bt wm ro wa ch al fr (xs (i + 1)) wc rw rk g (ms_pk S n) (hM) (hy) (hg)) rfl rfl rfl hl.1 (rest := [.long (lN 0)]) rfl (Nat.le_of_ble_eq_true rfl) ⟨(Nat.le_of_ble_eq_true rfl), (Nat.le_of_ble_eq_true rfl)⟩ ⟨(Nat.le_of_ble_eq_true rfl), (Nat.le_of_ble_eq_true rfl)⟩ dL_law_441) (fun rm u H locs hpm hW => ?_)
    obtain ⟨wa_m, al_m⟩ := u
    replace hW : xt_W D A ss.heap (xX ad cI cL S K n wc dn w lw sy sb sh rw rk dr ++ xM am cI cL S K n iz dz tp bt wm ro wa_m ch al_m fr) H locs := hW
    subst hpm
    refine W.lcmp C.1 C.2.1 dL_law_444 ?_
    refine lv_if_eq C.1 C.2.1 dL_law_445 (tgt := 680) (by decide) (fun _ => ?_) (fun h => absurd ((lg_cmp_eq _ _).mpr rfl) h)
    exact ih S K n wc dn w lw sy sb sh rw rk dr iz dz tp bt wm ro wa_m ch al_m fr ls H locs (hR) hl hW
set_option maxHeartbeats 4000000 in
set_option maxRecDepth 100000 in
theorem lw_c12 {pg : Program} {l : Launch} {ev : Env} {ss : State} {mi : MethodId} {below : List Frame} {meth : Method} {cd : Code} {D : va_G} {cI cL : ClassId} {A : Nat → Prop} {Q : State → Prop} {b L : Nat} {xs : Nat → Int32} {ad am : Nat → Nat} (KK : lw_K pg ss mi cd D cI cL A b L xs) {i : Nat} (hi : i + 5 ≤ L) (ih : lw_I pg l ev ss mi b below meth cd D cI cL ad am A Q i) {S K n wc dn : Nat} {w lw sy sb sh rw rk dr : Nat → Nat} {iz dz tp bt : Nat} {wm ro wa ch al fr : Nat → Nat} {ls : Array Slot} {H : Heap} {locs : List Loc} (hR : rl_R S K n wc dn w lw sy sb sh rw rk dr iz dz wm ro ch) (hl : lv_has ls 4 [(3, .int (nI i)), (0, .ref b), (1, .ref (ad 0)), (2, .ref (am 0))]) (hW : xt_W D A ss.heap (xX ad cI cL S K n wc dn w lw sy sb sh rw rk dr ++ xM am cI cL S K n iz dz tp bt wm ro wa ch al fr) H locs) : W pg l ev room_1 ss mi #[Value.ref b] below meth cd H locs 16 965 Q (F0 mi 450 ls []) := by
  obtain ⟨C, hX, hbl, hbA, hA, hL⟩ := KK
  have hR2 := hR
  obtain ⟨hV, hM, g1, g2, g3, g4⟩ := hR2
  have hV2 := hV
  obtain ⟨hS0, hS3, hK0, hK4, hn6, hw, hlw, hsK, hok⟩ := hV2
  have he := rl_e hsK g1 g2
  obtain ⟨-, -, g, hg⟩ := hok
  rw [rl_we hS0 he] at hg
  by_cases hy : (∃ j, j < min wc 12 ∧ xs (i + 1) = nI j) ∧ ∃ j, j < n ∧ xs (i + 2) = nI j
  · obtain ⟨⟨j, hj, e1⟩, p, hp, e2⟩ := hy
    refine lv_aload_n C.1 C.2.1 dL_law_450 rfl (lv_at hl 2 rfl) ?_
    refine lv_aload_n C.1 C.2.1 dL_law_451 rfl (lv_at hl 1 rfl) ?_
    refine lv_iload_n C.1 C.2.1 dL_law_452 rfl (lv_at hl 0 rfl) ?_
    refine xt_iconst C 1 dL_law_453 (by decide +kernel) ?_
    refine xt_iadd C dL_law_454 ?_
    refine xt_sld C hX hbl hbA hW (by omega) hL dL_law_455 ?_
    refine lv_aload_n C.1 C.2.1 dL_law_456 rfl (lv_at hl 1 rfl) ?_
    refine lv_iload_n C.1 C.2.1 dL_law_457 rfl (lv_at hl 0 rfl) ?_
    refine xt_iconst C 2 dL_law_458 (by decide +kernel) ?_
    refine xt_iadd C dL_law_459 ?_
    refine xt_sld C hX hbl hbA hW (by omega) hL dL_law_460 ?_
    rw [e1, e2]
    refine xt_ciL hA hW (xt_runV C (xt_PL hW.1) (xt_DL hW.2.1) cwL_X0_stateOf (cx_stateOf_y l D cI cL ad S K n wc dn w lw sy sb sh rw rk dr j p (hV) (hj) (hp)) rfl rfl rfl hl.1 (rest := []) rfl (Nat.le_of_ble_eq_true rfl) ⟨(Nat.le_of_ble_eq_true rfl), (Nat.le_of_ble_eq_true rfl)⟩ ⟨(Nat.le_of_ble_eq_true rfl), (Nat.le_of_ble_eq_true rfl)⟩ dL_law_461) (fun rx u H locs hpx hW => ?_)
    replace hW : xt_W D A ss.heap (xX ad cI cL S K n wc dn w lw sy sb sh rw rk dr ++ xM am cI cL S K n iz dz tp bt wm ro wa ch al fr) H locs := hW
    subst hpx
    refine lv_aload_n C.1 C.2.1 dL_law_464 rfl (lv_at hl 3 rfl) ?_
    refine lv_aload_n C.1 C.2.1 dL_law_465 rfl (lv_at hl 1 rfl) ?_
    refine lv_iload_n C.1 C.2.1 dL_law_466 rfl (lv_at hl 0 rfl) ?_
    refine xt_iconst C 1 dL_law_467 (by decide +kernel) ?_
    refine xt_iadd C dL_law_468 ?_
    refine xt_sld C hX hbl hbA hW (by omega) hL dL_law_469 ?_
    refine lv_aload_n C.1 C.2.1 dL_law_470 rfl (lv_at hl 1 rfl) ?_
    refine lv_iload_n C.1 C.2.1 dL_law_471 rfl (lv_at hl 0 rfl) ?_
    refine xt_iconst C 2 dL_law_472 (by decide +kernel) ?_
    refine xt_iadd C dL_law_473 ?_
    refine xt_sld C hX hbl hbA hW (by omega) hL dL_law_474 ?_
    rw [e1, e2]
    refine xt_ciR hA hW (xt_runV C (xt_PR hW.1) (xt_DR hW.2.1) cwL_X1_stateOf (cm_stateOf_y l D cI cL am S K n iz dz tp bt wm ro wa ch al fr j p wc rw rk g (ms_pk S n) (hM) (hj) (hp) (hg)) rfl rfl rfl hl.1 (rest := [.int (nI (rk j / 2 ^ (2 * (n - 1 - p)) % 4))]) rfl (Nat.le_of_ble_eq_true rfl) ⟨(Nat.le_of_ble_eq_true rfl), (Nat.le_of_ble_eq_true rfl)⟩ ⟨(Nat.le_of_ble_eq_true rfl), (Nat.le_of_ble_eq_true rfl)⟩ dL_law_475) (fun rm u H locs hpm hW => ?_)
    obtain ⟨wa_m, al_m⟩ := u
    replace hW : xt_W D A ss.heap (xX ad cI cL S K n wc dn w lw sy sb sh rw rk dr ++ xM am cI cL S K n iz dz tp bt wm ro wa_m ch al_m fr) H locs := hW
    subst hpm
    rw [rl_st hS0 hS3 hp (hg.2.1 j (by omega) (by omega)).2.2.2]
    refine lv_icmp_eq C.1 C.2.1 dL_law_478 (tgt := 680) (by decide) (fun _ => ?_) (fun h => absurd rfl h)
    exact ih S K n wc dn w lw sy sb sh rw rk dr iz dz tp bt wm ro wa_m ch al_m fr ls H locs (hR) hl hW
  · refine lv_aload_n C.1 C.2.1 dL_law_450 rfl (lv_at hl 2 rfl) ?_
    refine lv_aload_n C.1 C.2.1 dL_law_451 rfl (lv_at hl 1 rfl) ?_
    refine lv_iload_n C.1 C.2.1 dL_law_452 rfl (lv_at hl 0 rfl) ?_
    refine xt_iconst C 1 dL_law_453 (by decide +kernel) ?_
    refine xt_iadd C dL_law_454 ?_
    refine xt_sld C hX hbl hbA hW (by omega) hL dL_law_455 ?_
    refine lv_aload_n C.1 C.2.1 dL_law_456 rfl (lv_at hl 1 rfl) ?_
    refine lv_iload_n C.1 C.2.1 dL_law_457 rfl (lv_at hl 0 rfl) ?_
    refine xt_iconst C 2 dL_law_458 (by decide +kernel) ?_
    refine xt_iadd C dL_law_459 ?_
    refine xt_sld C hX hbl hbA hW (by omega) hL dL_law_460 ?_
    refine xt_ciL hA hW (xt_runV C (xt_PL hW.1) (xt_DL hW.2.1) cwL_X0_stateOf (cx_stateOf_n l D cI cL ad S K n wc dn w lw sy sb sh rw rk dr (xs (i + 1)) (xs (i + 2)) (hV) (hy)) rfl rfl rfl hl.1 (rest := []) rfl (Nat.le_of_ble_eq_true rfl) ⟨(Nat.le_of_ble_eq_true rfl), (Nat.le_of_ble_eq_true rfl)⟩ ⟨(Nat.le_of_ble_eq_true rfl), (Nat.le_of_ble_eq_true rfl)⟩ dL_law_461) (fun rx u H locs hpx hW => ?_)
    replace hW : xt_W D A ss.heap (xX ad cI cL S K n wc dn w lw sy sb sh rw rk dr ++ xM am cI cL S K n iz dz tp bt wm ro wa ch al fr) H locs := hW
    subst hpx
    refine lv_aload_n C.1 C.2.1 dL_law_464 rfl (lv_at hl 3 rfl) ?_
    refine lv_aload_n C.1 C.2.1 dL_law_465 rfl (lv_at hl 1 rfl) ?_
    refine lv_iload_n C.1 C.2.1 dL_law_466 rfl (lv_at hl 0 rfl) ?_
    refine xt_iconst C 1 dL_law_467 (by decide +kernel) ?_
    refine xt_iadd C dL_law_468 ?_
    refine xt_sld C hX hbl hbA hW (by omega) hL dL_law_469 ?_
    refine lv_aload_n C.1 C.2.1 dL_law_470 rfl (lv_at hl 1 rfl) ?_
    refine lv_iload_n C.1 C.2.1 dL_law_471 rfl (lv_at hl 0 rfl) ?_
    refine xt_iconst C 2 dL_law_472 (by decide +kernel) ?_
    refine xt_iadd C dL_law_473 ?_
    refine xt_sld C hX hbl hbA hW (by omega) hL dL_law_474 ?_
    refine xt_ciR hA hW (xt_runV C (xt_PR hW.1) (xt_DR hW.2.1) cwL_X1_stateOf (cm_stateOf_n l D cI cL am S K n iz dz tp bt wm ro wa ch al fr (xs (i + 1)) (xs (i + 2)) wc rw rk g (ms_pk S n) (hM) (hy) (hg)) rfl rfl rfl hl.1 (rest := [.int (-1)]) rfl (Nat.le_of_ble_eq_true rfl) ⟨(Nat.le_of_ble_eq_true rfl), (Nat.le_of_ble_eq_true rfl)⟩ ⟨(Nat.le_of_ble_eq_true rfl), (Nat.le_of_ble_eq_true rfl)⟩ dL_law_475) (fun rm u H locs hpm hW => ?_)
    obtain ⟨wa_m, al_m⟩ := u
    replace hW : xt_W D A ss.heap (xX ad cI cL S K n wc dn w lw sy sb sh rw rk dr ++ xM am cI cL S K n iz dz tp bt wm ro wa_m ch al_m fr) H locs := hW
    subst hpm
    refine lv_icmp_eq C.1 C.2.1 dL_law_478 (tgt := 680) (by decide) (fun _ => ?_) (fun h => absurd rfl h)
    exact ih S K n wc dn w lw sy sb sh rw rk dr iz dz tp bt wm ro wa_m ch al_m fr ls H locs (hR) hl hW
set_option maxHeartbeats 4000000 in
set_option maxRecDepth 100000 in
theorem lw_c13 {pg : Program} {l : Launch} {ev : Env} {ss : State} {mi : MethodId} {below : List Frame} {meth : Method} {cd : Code} {D : va_G} {cI cL : ClassId} {A : Nat → Prop} {Q : State → Prop} {b L : Nat} {xs : Nat → Int32} {ad am : Nat → Nat} (KK : lw_K pg ss mi cd D cI cL A b L xs) {i : Nat} (hi : i + 5 ≤ L) (ih : lw_I pg l ev ss mi b below meth cd D cI cL ad am A Q i) {S K n wc dn : Nat} {w lw sy sb sh rw rk dr : Nat → Nat} {iz dz tp bt : Nat} {wm ro wa ch al fr : Nat → Nat} {ls : Array Slot} {H : Heap} {locs : List Loc} (hR : rl_R S K n wc dn w lw sy sb sh rw rk dr iz dz wm ro ch) (hl : lv_has ls 4 [(3, .int (nI i)), (0, .ref b), (1, .ref (ad 0)), (2, .ref (am 0))]) (hW : xt_W D A ss.heap (xX ad cI cL S K n wc dn w lw sy sb sh rw rk dr ++ xM am cI cL S K n iz dz tp bt wm ro wa ch al fr) H locs) : W pg l ev room_1 ss mi #[Value.ref b] below meth cd H locs 16 965 Q (F0 mi 483 ls []) := by
  obtain ⟨C, hX, hbl, hbA, hA, hL⟩ := KK
  have hR2 := hR
  obtain ⟨hV, hM, g1, g2, g3, g4⟩ := hR2
  have hV2 := hV
  obtain ⟨hS0, hS3, hK0, hK4, hn6, hw, hlw, hsK, hok⟩ := hV2
  have he := rl_e hsK g1 g2
  by_cases hy : ∃ ka kb kc, xs (i + 1) = nI ka ∧ xs (i + 2) = nI kb ∧ xs (i + 3) = nI kc ∧ xq_sr S K n ka kb kc
  · obtain ⟨ka, kb, kc, e1, e2, e3, hs⟩ := hy
    refine lv_aload_n C.1 C.2.1 dL_law_483 rfl (lv_at hl 2 rfl) ?_
    refine lv_aload_n C.1 C.2.1 dL_law_484 rfl (lv_at hl 1 rfl) ?_
    refine lv_iload_n C.1 C.2.1 dL_law_485 rfl (lv_at hl 0 rfl) ?_
    refine xt_iconst C 1 dL_law_486 (by decide +kernel) ?_
    refine xt_iadd C dL_law_487 ?_
    refine xt_sld C hX hbl hbA hW (by omega) hL dL_law_488 ?_
    refine lv_aload_n C.1 C.2.1 dL_law_489 rfl (lv_at hl 1 rfl) ?_
    refine lv_iload_n C.1 C.2.1 dL_law_490 rfl (lv_at hl 0 rfl) ?_
    refine xt_iconst C 2 dL_law_491 (by decide +kernel) ?_
    refine xt_iadd C dL_law_492 ?_
    refine xt_sld C hX hbl hbA hW (by omega) hL dL_law_493 ?_
    refine lv_aload_n C.1 C.2.1 dL_law_494 rfl (lv_at hl 1 rfl) ?_
    refine lv_iload_n C.1 C.2.1 dL_law_495 rfl (lv_at hl 0 rfl) ?_
    refine xt_iconst C 3 dL_law_496 (by decide +kernel) ?_
    refine xt_iadd C dL_law_497 ?_
    refine xt_sld C hX hbl hbA hW (by omega) hL dL_law_498 ?_
    refine lv_aload_n C.1 C.2.1 dL_law_499 rfl (lv_at hl 1 rfl) ?_
    refine lv_iload_n C.1 C.2.1 dL_law_500 rfl (lv_at hl 0 rfl) ?_
    refine xt_iconst C 4 dL_law_501 (by decide +kernel) ?_
    refine xt_iadd C dL_law_502 ?_
    refine xt_sld C hX hbl hbA hW (by omega) hL dL_law_503 ?_
    rw [e1, e2, e3]
    refine xt_clL hA hW (xt_runV C (xt_PL hW.1) (xt_DL hW.2.1) cwL_X0_share (cx_share_y l D cI cL ad S K n wc dn w lw sy sb sh rw rk dr ka kb kc (xs (i + 4)) (hV) (hs)) rfl rfl rfl hl.1 (rest := []) rfl (Nat.le_of_ble_eq_true rfl) ⟨(Nat.le_of_ble_eq_true rfl), (Nat.le_of_ble_eq_true rfl)⟩ ⟨(Nat.le_of_ble_eq_true rfl), (Nat.le_of_ble_eq_true rfl)⟩ dL_law_504) (fun rx u H locs hpx hW => ?_)
    replace hW : xt_W D A ss.heap (xX ad cI cL S K n wc dn w lw sy sb sh rw rk dr ++ xM am cI cL S K n iz dz tp bt wm ro wa ch al fr) H locs := hW
    subst hpx
    refine lv_aload_n C.1 C.2.1 dL_law_507 rfl (lv_at hl 3 rfl) ?_
    refine lv_aload_n C.1 C.2.1 dL_law_508 rfl (lv_at hl 1 rfl) ?_
    refine lv_iload_n C.1 C.2.1 dL_law_509 rfl (lv_at hl 0 rfl) ?_
    refine xt_iconst C 1 dL_law_510 (by decide +kernel) ?_
    refine xt_iadd C dL_law_511 ?_
    refine xt_sld C hX hbl hbA hW (by omega) hL dL_law_512 ?_
    refine lv_aload_n C.1 C.2.1 dL_law_513 rfl (lv_at hl 1 rfl) ?_
    refine lv_iload_n C.1 C.2.1 dL_law_514 rfl (lv_at hl 0 rfl) ?_
    refine xt_iconst C 2 dL_law_515 (by decide +kernel) ?_
    refine xt_iadd C dL_law_516 ?_
    refine xt_sld C hX hbl hbA hW (by omega) hL dL_law_517 ?_
    refine lv_aload_n C.1 C.2.1 dL_law_518 rfl (lv_at hl 1 rfl) ?_
    refine lv_iload_n C.1 C.2.1 dL_law_519 rfl (lv_at hl 0 rfl) ?_
    refine xt_iconst C 3 dL_law_520 (by decide +kernel) ?_
    refine xt_iadd C dL_law_521 ?_
    refine xt_sld C hX hbl hbA hW (by omega) hL dL_law_522 ?_
    refine lv_aload_n C.1 C.2.1 dL_law_523 rfl (lv_at hl 1 rfl) ?_
    refine lv_iload_n C.1 C.2.1 dL_law_524 rfl (lv_at hl 0 rfl) ?_
    refine xt_iconst C 4 dL_law_525 (by decide +kernel) ?_
    refine xt_iadd C dL_law_526 ?_
    refine xt_sld C hX hbl hbA hW (by omega) hL dL_law_527 ?_
    rw [e1, e2, e3]
    refine xt_clR hA hW (xt_runV C (xt_PR hW.1) (xt_DR hW.2.1) cwL_X1_share (cm_share_y l D cI cL am S K n iz dz tp bt wm ro wa ch al fr ka kb kc (xs (i + 4)) (hM) (hs)) rfl rfl rfl hl.1 (rest := [.long (lN (xq_pt (ms_un (xe w sy) S n sy ka kb kc) (ms_sum (fun z1 => ms_wt (xe w sy) S n z1) (S ^ n)) (xs (i + 4))))]) rfl (Nat.le_of_ble_eq_true rfl) ⟨(Nat.le_of_ble_eq_true rfl), (Nat.le_of_ble_eq_true rfl)⟩ ⟨(Nat.le_of_ble_eq_true rfl), (Nat.le_of_ble_eq_true rfl)⟩ dL_law_528) (fun rm u H locs hpm hW => ?_)
    obtain ⟨wa_m, tp_m, bt_m⟩ := u
    replace hW : xt_W D A ss.heap (xX ad cI cL S K n wc dn w lw sy sb sh rw rk dr ++ xM am cI cL S K n iz dz tp_m bt_m wm ro wa_m ch al fr) H locs := hW
    subst hpm
    rw [rl_un hS0 he g2 (xq_sku hn6 hs), rl_tot hS0 he]
    refine W.lcmp C.1 C.2.1 dL_law_531 ?_
    refine lv_if_eq C.1 C.2.1 dL_law_532 (tgt := 680) (by decide) (fun _ => ?_) (fun h => absurd ((lg_cmp_eq _ _).mpr rfl) h)
    exact ih S K n wc dn w lw sy sb sh rw rk dr iz dz tp_m bt_m wm ro wa_m ch al fr ls H locs (hR) hl hW
  · refine lv_aload_n C.1 C.2.1 dL_law_483 rfl (lv_at hl 2 rfl) ?_
    refine lv_aload_n C.1 C.2.1 dL_law_484 rfl (lv_at hl 1 rfl) ?_
    refine lv_iload_n C.1 C.2.1 dL_law_485 rfl (lv_at hl 0 rfl) ?_
    refine xt_iconst C 1 dL_law_486 (by decide +kernel) ?_
    refine xt_iadd C dL_law_487 ?_
    refine xt_sld C hX hbl hbA hW (by omega) hL dL_law_488 ?_
    refine lv_aload_n C.1 C.2.1 dL_law_489 rfl (lv_at hl 1 rfl) ?_
    refine lv_iload_n C.1 C.2.1 dL_law_490 rfl (lv_at hl 0 rfl) ?_
    refine xt_iconst C 2 dL_law_491 (by decide +kernel) ?_
    refine xt_iadd C dL_law_492 ?_
    refine xt_sld C hX hbl hbA hW (by omega) hL dL_law_493 ?_
    refine lv_aload_n C.1 C.2.1 dL_law_494 rfl (lv_at hl 1 rfl) ?_
    refine lv_iload_n C.1 C.2.1 dL_law_495 rfl (lv_at hl 0 rfl) ?_
    refine xt_iconst C 3 dL_law_496 (by decide +kernel) ?_
    refine xt_iadd C dL_law_497 ?_
    refine xt_sld C hX hbl hbA hW (by omega) hL dL_law_498 ?_
    refine lv_aload_n C.1 C.2.1 dL_law_499 rfl (lv_at hl 1 rfl) ?_
    refine lv_iload_n C.1 C.2.1 dL_law_500 rfl (lv_at hl 0 rfl) ?_
    refine xt_iconst C 4 dL_law_501 (by decide +kernel) ?_
    refine xt_iadd C dL_law_502 ?_
    refine xt_sld C hX hbl hbA hW (by omega) hL dL_law_503 ?_
    refine xt_clL hA hW (xt_runV C (xt_PL hW.1) (xt_DL hW.2.1) cwL_X0_share (cx_share_n l D cI cL ad S K n wc dn w lw sy sb sh rw rk dr (xs (i + 1)) (xs (i + 2)) (xs (i + 3)) (xs (i + 4)) (hV) (fun q => by obtain ⟨a1, ⟨j, hj, a2⟩, k, hk, a3⟩ := q; exact hy ⟨0, j, k, a1, a2, a3, Or.inl ⟨rfl, hj, hk⟩⟩) (fun q => by obtain ⟨a0, a, b, c, a1, a2, a3, hk⟩ := q; exact hy ⟨a, b, c, a1, a2, a3, lw_sr hk (fun z => a0 (by rw [a1, z]))⟩)) rfl rfl rfl hl.1 (rest := []) rfl (Nat.le_of_ble_eq_true rfl) ⟨(Nat.le_of_ble_eq_true rfl), (Nat.le_of_ble_eq_true rfl)⟩ ⟨(Nat.le_of_ble_eq_true rfl), (Nat.le_of_ble_eq_true rfl)⟩ dL_law_504) (fun rx u H locs hpx hW => ?_)
    replace hW : xt_W D A ss.heap (xX ad cI cL S K n wc dn w lw sy sb sh rw rk dr ++ xM am cI cL S K n iz dz tp bt wm ro wa ch al fr) H locs := hW
    subst hpx
    refine lv_aload_n C.1 C.2.1 dL_law_507 rfl (lv_at hl 3 rfl) ?_
    refine lv_aload_n C.1 C.2.1 dL_law_508 rfl (lv_at hl 1 rfl) ?_
    refine lv_iload_n C.1 C.2.1 dL_law_509 rfl (lv_at hl 0 rfl) ?_
    refine xt_iconst C 1 dL_law_510 (by decide +kernel) ?_
    refine xt_iadd C dL_law_511 ?_
    refine xt_sld C hX hbl hbA hW (by omega) hL dL_law_512 ?_
    refine lv_aload_n C.1 C.2.1 dL_law_513 rfl (lv_at hl 1 rfl) ?_
    refine lv_iload_n C.1 C.2.1 dL_law_514 rfl (lv_at hl 0 rfl) ?_
    refine xt_iconst C 2 dL_law_515 (by decide +kernel) ?_
    refine xt_iadd C dL_law_516 ?_
    refine xt_sld C hX hbl hbA hW (by omega) hL dL_law_517 ?_
    refine lv_aload_n C.1 C.2.1 dL_law_518 rfl (lv_at hl 1 rfl) ?_
    refine lv_iload_n C.1 C.2.1 dL_law_519 rfl (lv_at hl 0 rfl) ?_
    refine xt_iconst C 3 dL_law_520 (by decide +kernel) ?_
    refine xt_iadd C dL_law_521 ?_
    refine xt_sld C hX hbl hbA hW (by omega) hL dL_law_522 ?_
    refine lv_aload_n C.1 C.2.1 dL_law_523 rfl (lv_at hl 1 rfl) ?_
    refine lv_iload_n C.1 C.2.1 dL_law_524 rfl (lv_at hl 0 rfl) ?_
    refine xt_iconst C 4 dL_law_525 (by decide +kernel) ?_
    refine xt_iadd C dL_law_526 ?_
    refine xt_sld C hX hbl hbA hW (by omega) hL dL_law_527 ?_
    refine xt_clR hA hW (xt_runV C (xt_PR hW.1) (xt_DR hW.2.1) cwL_X1_share (cm_share_n l D cI cL am S K n iz dz tp bt wm ro wa ch al fr (xs (i + 1)) (xs (i + 2)) (xs (i + 3)) (xs (i + 4)) (hM) (fun q => by obtain ⟨a1, ⟨j, hj, a2⟩, k, hk, a3⟩ := q; exact hy ⟨0, j, k, a1, a2, a3, Or.inl ⟨rfl, hj, hk⟩⟩) (fun q => by obtain ⟨a0, a, b, c, a1, a2, a3, hk⟩ := q; exact hy ⟨a, b, c, a1, a2, a3, lw_sr hk (fun z => a0 (by rw [a1, z]))⟩)) rfl rfl rfl hl.1 (rest := [.long (lN 0)]) rfl (Nat.le_of_ble_eq_true rfl) ⟨(Nat.le_of_ble_eq_true rfl), (Nat.le_of_ble_eq_true rfl)⟩ ⟨(Nat.le_of_ble_eq_true rfl), (Nat.le_of_ble_eq_true rfl)⟩ dL_law_528) (fun rm u H locs hpm hW => ?_)
    replace hW : xt_W D A ss.heap (xX ad cI cL S K n wc dn w lw sy sb sh rw rk dr ++ xM am cI cL S K n iz dz tp bt wm ro wa ch al fr) H locs := hW
    subst hpm
    refine W.lcmp C.1 C.2.1 dL_law_531 ?_
    refine lv_if_eq C.1 C.2.1 dL_law_532 (tgt := 680) (by decide) (fun _ => ?_) (fun h => absurd ((lg_cmp_eq _ _).mpr rfl) h)
    exact ih S K n wc dn w lw sy sb sh rw rk dr iz dz tp bt wm ro wa ch al fr ls H locs (hR) hl hW
set_option maxHeartbeats 4000000 in
set_option maxRecDepth 100000 in
theorem lw_c14 {pg : Program} {l : Launch} {ev : Env} {ss : State} {mi : MethodId} {below : List Frame} {meth : Method} {cd : Code} {D : va_G} {cI cL : ClassId} {A : Nat → Prop} {Q : State → Prop} {b L : Nat} {xs : Nat → Int32} {ad am : Nat → Nat} (KK : lw_K pg ss mi cd D cI cL A b L xs) {i : Nat} (hi : i + 5 ≤ L) (ih : lw_I pg l ev ss mi b below meth cd D cI cL ad am A Q i) {S K n wc dn : Nat} {w lw sy sb sh rw rk dr : Nat → Nat} {iz dz tp bt : Nat} {wm ro wa ch al fr : Nat → Nat} {ls : Array Slot} {H : Heap} {locs : List Loc} (hR : rl_R S K n wc dn w lw sy sb sh rw rk dr iz dz wm ro ch) (hl : lv_has ls 4 [(3, .int (nI i)), (0, .ref b), (1, .ref (ad 0)), (2, .ref (am 0))]) (hW : xt_W D A ss.heap (xX ad cI cL S K n wc dn w lw sy sb sh rw rk dr ++ xM am cI cL S K n iz dz tp bt wm ro wa ch al fr) H locs) : W pg l ev room_1 ss mi #[Value.ref b] below meth cd H locs 16 965 Q (F0 mi 537 ls []) := by
  obtain ⟨C, hX, hbl, hbA, hA, hL⟩ := KK
  have hR2 := hR
  obtain ⟨hV, hM, g1, g2, g3, g4⟩ := hR2
  have hV2 := hV
  obtain ⟨hS0, hS3, hK0, hK4, hn6, hw, hlw, hsK, hok⟩ := hV2
  have he := rl_e hsK g1 g2
  by_cases hy : ∃ a b c, xt_ok S K (xs (i + 1)) (xs (i + 2)) (xs (i + 3)) a b c
  · obtain ⟨ka, kb, kc, e1, e2, e3, hk⟩ := hy
    refine lv_aload_n C.1 C.2.1 dL_law_537 rfl (lv_at hl 2 rfl) ?_
    refine lv_aload_n C.1 C.2.1 dL_law_538 rfl (lv_at hl 1 rfl) ?_
    refine lv_iload_n C.1 C.2.1 dL_law_539 rfl (lv_at hl 0 rfl) ?_
    refine xt_iconst C 1 dL_law_540 (by decide +kernel) ?_
    refine xt_iadd C dL_law_541 ?_
    refine xt_sld C hX hbl hbA hW (by omega) hL dL_law_542 ?_
    refine lv_aload_n C.1 C.2.1 dL_law_543 rfl (lv_at hl 1 rfl) ?_
    refine lv_iload_n C.1 C.2.1 dL_law_544 rfl (lv_at hl 0 rfl) ?_
    refine xt_iconst C 2 dL_law_545 (by decide +kernel) ?_
    refine xt_iadd C dL_law_546 ?_
    refine xt_sld C hX hbl hbA hW (by omega) hL dL_law_547 ?_
    refine lv_aload_n C.1 C.2.1 dL_law_548 rfl (lv_at hl 1 rfl) ?_
    refine lv_iload_n C.1 C.2.1 dL_law_549 rfl (lv_at hl 0 rfl) ?_
    refine xt_iconst C 3 dL_law_550 (by decide +kernel) ?_
    refine xt_iadd C dL_law_551 ?_
    refine xt_sld C hX hbl hbA hW (by omega) hL dL_law_552 ?_
    refine lv_aload_n C.1 C.2.1 dL_law_553 rfl (lv_at hl 1 rfl) ?_
    refine lv_iload_n C.1 C.2.1 dL_law_554 rfl (lv_at hl 0 rfl) ?_
    refine xt_iconst C 4 dL_law_555 (by decide +kernel) ?_
    refine xt_iadd C dL_law_556 ?_
    refine xt_sld C hX hbl hbA hW (by omega) hL dL_law_557 ?_
    rw [e1, e2, e3]
    refine xt_clL hA hW (xt_runV C (xt_PL hW.1) (xt_DL hW.2.1) cwL_X0_learned (cx_learned_y l D cI cL ad S K n wc dn w lw sy sb sh rw rk dr ka kb kc (xs (i + 4)) (hV) (hk)) rfl rfl rfl hl.1 (rest := []) rfl (Nat.le_of_ble_eq_true rfl) ⟨(Nat.le_of_ble_eq_true rfl), (Nat.le_of_ble_eq_true rfl)⟩ ⟨(Nat.le_of_ble_eq_true rfl), (Nat.le_of_ble_eq_true rfl)⟩ dL_law_558) (fun rx u H locs hpx hW => ?_)
    replace hW : xt_W D A ss.heap (xX ad cI cL S K n wc dn w lw sy sb sh rw rk dr ++ xM am cI cL S K n iz dz tp bt wm ro wa ch al fr) H locs := hW
    subst hpx
    refine lv_aload_n C.1 C.2.1 dL_law_561 rfl (lv_at hl 3 rfl) ?_
    refine lv_aload_n C.1 C.2.1 dL_law_562 rfl (lv_at hl 1 rfl) ?_
    refine lv_iload_n C.1 C.2.1 dL_law_563 rfl (lv_at hl 0 rfl) ?_
    refine xt_iconst C 1 dL_law_564 (by decide +kernel) ?_
    refine xt_iadd C dL_law_565 ?_
    refine xt_sld C hX hbl hbA hW (by omega) hL dL_law_566 ?_
    refine lv_aload_n C.1 C.2.1 dL_law_567 rfl (lv_at hl 1 rfl) ?_
    refine lv_iload_n C.1 C.2.1 dL_law_568 rfl (lv_at hl 0 rfl) ?_
    refine xt_iconst C 2 dL_law_569 (by decide +kernel) ?_
    refine xt_iadd C dL_law_570 ?_
    refine xt_sld C hX hbl hbA hW (by omega) hL dL_law_571 ?_
    refine lv_aload_n C.1 C.2.1 dL_law_572 rfl (lv_at hl 1 rfl) ?_
    refine lv_iload_n C.1 C.2.1 dL_law_573 rfl (lv_at hl 0 rfl) ?_
    refine xt_iconst C 3 dL_law_574 (by decide +kernel) ?_
    refine xt_iadd C dL_law_575 ?_
    refine xt_sld C hX hbl hbA hW (by omega) hL dL_law_576 ?_
    refine lv_aload_n C.1 C.2.1 dL_law_577 rfl (lv_at hl 1 rfl) ?_
    refine lv_iload_n C.1 C.2.1 dL_law_578 rfl (lv_at hl 0 rfl) ?_
    refine xt_iconst C 4 dL_law_579 (by decide +kernel) ?_
    refine xt_iadd C dL_law_580 ?_
    refine xt_sld C hX hbl hbA hW (by omega) hL dL_law_581 ?_
    rw [e1, e2, e3]
    refine xt_clR hA hW (xt_runV C (xt_PR hW.1) (xt_DR hW.2.1) cwL_X1_learned (cm_learned_y l D cI cL am S K n iz dz tp bt wm ro wa ch al fr ka kb kc (xs (i + 4)) (hM) (hk)) rfl rfl rfl hl.1 (rest := [.long (lN (xq_pt (xq_po S K n w sy ka kb kc) (xq_wh S K n w sy ka kb) (xs (i + 4))))]) rfl (Nat.le_of_ble_eq_true rfl) ⟨(Nat.le_of_ble_eq_true rfl), (Nat.le_of_ble_eq_true rfl)⟩ ⟨(Nat.le_of_ble_eq_true rfl), (Nat.le_of_ble_eq_true rfl)⟩ dL_law_582) (fun rm u H locs hpm hW => ?_)
    obtain ⟨wa_m, tp_m, bt_m⟩ := u
    replace hW : xt_W D A ss.heap (xX ad cI cL S K n wc dn w lw sy sb sh rw rk dr ++ xM am cI cL S K n iz dz tp_m bt_m wm ro wa_m ch al fr) H locs := hW
    subst hpm
    rw [rl_po hS0 he g2 g1 hk, rl_wh hS0 he g2 g1 (xq_kcr hk).1 (xq_kcr hk).2.1]
    refine W.lcmp C.1 C.2.1 dL_law_585 ?_
    refine lv_if_eq C.1 C.2.1 dL_law_586 (tgt := 680) (by decide) (fun _ => ?_) (fun h => absurd ((lg_cmp_eq _ _).mpr rfl) h)
    exact ih S K n wc dn w lw sy sb sh rw rk dr iz dz tp_m bt_m wm ro wa_m ch al fr ls H locs (hR) hl hW
  · refine lv_aload_n C.1 C.2.1 dL_law_537 rfl (lv_at hl 2 rfl) ?_
    refine lv_aload_n C.1 C.2.1 dL_law_538 rfl (lv_at hl 1 rfl) ?_
    refine lv_iload_n C.1 C.2.1 dL_law_539 rfl (lv_at hl 0 rfl) ?_
    refine xt_iconst C 1 dL_law_540 (by decide +kernel) ?_
    refine xt_iadd C dL_law_541 ?_
    refine xt_sld C hX hbl hbA hW (by omega) hL dL_law_542 ?_
    refine lv_aload_n C.1 C.2.1 dL_law_543 rfl (lv_at hl 1 rfl) ?_
    refine lv_iload_n C.1 C.2.1 dL_law_544 rfl (lv_at hl 0 rfl) ?_
    refine xt_iconst C 2 dL_law_545 (by decide +kernel) ?_
    refine xt_iadd C dL_law_546 ?_
    refine xt_sld C hX hbl hbA hW (by omega) hL dL_law_547 ?_
    refine lv_aload_n C.1 C.2.1 dL_law_548 rfl (lv_at hl 1 rfl) ?_
    refine lv_iload_n C.1 C.2.1 dL_law_549 rfl (lv_at hl 0 rfl) ?_
    refine xt_iconst C 3 dL_law_550 (by decide +kernel) ?_
    refine xt_iadd C dL_law_551 ?_
    refine xt_sld C hX hbl hbA hW (by omega) hL dL_law_552 ?_
    refine lv_aload_n C.1 C.2.1 dL_law_553 rfl (lv_at hl 1 rfl) ?_
    refine lv_iload_n C.1 C.2.1 dL_law_554 rfl (lv_at hl 0 rfl) ?_
    refine xt_iconst C 4 dL_law_555 (by decide +kernel) ?_
    refine xt_iadd C dL_law_556 ?_
    refine xt_sld C hX hbl hbA hW (by omega) hL dL_law_557 ?_
    refine xt_clL hA hW (xt_runV C (xt_PL hW.1) (xt_DL hW.2.1) cwL_X0_learned (cx_learned_n l D cI cL ad S K n wc dn w lw sy sb sh rw rk dr (xs (i + 1)) (xs (i + 2)) (xs (i + 3)) (xs (i + 4)) (hV) (hy)) rfl rfl rfl hl.1 (rest := []) rfl (Nat.le_of_ble_eq_true rfl) ⟨(Nat.le_of_ble_eq_true rfl), (Nat.le_of_ble_eq_true rfl)⟩ ⟨(Nat.le_of_ble_eq_true rfl), (Nat.le_of_ble_eq_true rfl)⟩ dL_law_558) (fun rx u H locs hpx hW => ?_)
    replace hW : xt_W D A ss.heap (xX ad cI cL S K n wc dn w lw sy sb sh rw rk dr ++ xM am cI cL S K n iz dz tp bt wm ro wa ch al fr) H locs := hW
    subst hpx
    refine lv_aload_n C.1 C.2.1 dL_law_561 rfl (lv_at hl 3 rfl) ?_
    refine lv_aload_n C.1 C.2.1 dL_law_562 rfl (lv_at hl 1 rfl) ?_
    refine lv_iload_n C.1 C.2.1 dL_law_563 rfl (lv_at hl 0 rfl) ?_
    refine xt_iconst C 1 dL_law_564 (by decide +kernel) ?_
    refine xt_iadd C dL_law_565 ?_
    refine xt_sld C hX hbl hbA hW (by omega) hL dL_law_566 ?_
    refine lv_aload_n C.1 C.2.1 dL_law_567 rfl (lv_at hl 1 rfl) ?_
    refine lv_iload_n C.1 C.2.1 dL_law_568 rfl (lv_at hl 0 rfl) ?_
    refine xt_iconst C 2 dL_law_569 (by decide +kernel) ?_
    refine xt_iadd C dL_law_570 ?_
    refine xt_sld C hX hbl hbA hW (by omega) hL dL_law_571 ?_
    refine lv_aload_n C.1 C.2.1 dL_law_572 rfl (lv_at hl 1 rfl) ?_
    refine lv_iload_n C.1 C.2.1 dL_law_573 rfl (lv_at hl 0 rfl) ?_
    refine xt_iconst C 3 dL_law_574 (by decide +kernel) ?_
    refine xt_iadd C dL_law_575 ?_
    refine xt_sld C hX hbl hbA hW (by omega) hL dL_law_576 ?_
    refine lv_aload_n C.1 C.2.1 dL_law_577 rfl (lv_at hl 1 rfl) ?_
    refine lv_iload_n C.1 C.2.1 dL_law_578 rfl (lv_at hl 0 rfl) ?_
    refine xt_iconst C 4 dL_law_579 (by decide +kernel) ?_
    refine xt_iadd C dL_law_580 ?_
    refine xt_sld C hX hbl hbA hW (by omega) hL dL_law_581 ?_
    refine xt_clR hA hW (xt_runV C (xt_PR hW.1) (xt_DR hW.2.1) cwL_X1_learned (cm_learned_n l D cI cL am S K n iz dz tp bt wm ro wa ch al fr (xs (i + 1)) (xs (i + 2)) (xs (i + 3)) (xs (i + 4)) (hM) (hy)) rfl rfl rfl hl.1 (rest := [.long (lN 0)]) rfl (Nat.le_of_ble_eq_true rfl) ⟨(Nat.le_of_ble_eq_true rfl), (Nat.le_of_ble_eq_true rfl)⟩ ⟨(Nat.le_of_ble_eq_true rfl), (Nat.le_of_ble_eq_true rfl)⟩ dL_law_582) (fun rm u H locs hpm hW => ?_)
    replace hW : xt_W D A ss.heap (xX ad cI cL S K n wc dn w lw sy sb sh rw rk dr ++ xM am cI cL S K n iz dz tp bt wm ro wa ch al fr) H locs := hW
    subst hpm
    refine W.lcmp C.1 C.2.1 dL_law_585 ?_
    refine lv_if_eq C.1 C.2.1 dL_law_586 (tgt := 680) (by decide) (fun _ => ?_) (fun h => absurd ((lg_cmp_eq _ _).mpr rfl) h)
    exact ih S K n wc dn w lw sy sb sh rw rk dr iz dz tp bt wm ro wa ch al fr ls H locs (hR) hl hW
set_option maxHeartbeats 4000000 in
set_option maxRecDepth 100000 in
theorem lw_c15 {pg : Program} {l : Launch} {ev : Env} {ss : State} {mi : MethodId} {below : List Frame} {meth : Method} {cd : Code} {D : va_G} {cI cL : ClassId} {A : Nat → Prop} {Q : State → Prop} {b L : Nat} {xs : Nat → Int32} {ad am : Nat → Nat} (KK : lw_K pg ss mi cd D cI cL A b L xs) {i : Nat} (hi : i + 5 ≤ L) (ih : lw_I pg l ev ss mi b below meth cd D cI cL ad am A Q i) {S K n wc dn : Nat} {w lw sy sb sh rw rk dr : Nat → Nat} {iz dz tp bt : Nat} {wm ro wa ch al fr : Nat → Nat} {ls : Array Slot} {H : Heap} {locs : List Loc} (hR : rl_R S K n wc dn w lw sy sb sh rw rk dr iz dz wm ro ch) (hl : lv_has ls 4 [(3, .int (nI i)), (0, .ref b), (1, .ref (ad 0)), (2, .ref (am 0))]) (hW : xt_W D A ss.heap (xX ad cI cL S K n wc dn w lw sy sb sh rw rk dr ++ xM am cI cL S K n iz dz tp bt wm ro wa ch al fr) H locs) : W pg l ev room_1 ss mi #[Value.ref b] below meth cd H locs 16 965 Q (F0 mi 591 ls []) := by
  obtain ⟨C, hX, hbl, hbA, hA, hL⟩ := KK
  have hR2 := hR
  obtain ⟨hV, hM, g1, g2, g3, g4⟩ := hR2
  have hV2 := hV
  obtain ⟨hS0, hS3, hK0, hK4, hn6, hw, hlw, hsK, hok⟩ := hV2
  have he := rl_e hsK g1 g2
  refine lv_aload_n C.1 C.2.1 dL_law_591 rfl (lv_at hl 2 rfl) ?_
  refine xt_ciL hA hW (xt_runV C (xt_PL hW.1) (xt_DL hW.2.1) cwL_X0_learn (cx_learn l D cI cL ad S K n wc dn w lw sy sb sh rw rk dr (hV)) rfl rfl rfl hl.1 (rest := []) rfl (Nat.le_of_ble_eq_true rfl) ⟨(Nat.le_of_ble_eq_true rfl), (Nat.le_of_ble_eq_true rfl)⟩ ⟨(Nat.le_of_ble_eq_true rfl), (Nat.le_of_ble_eq_true rfl)⟩ dL_law_592) (fun rx u H locs hpx hW => ?_)
  obtain ⟨w_x, lw_x, sb_x, sh_x, wc_x, rw_x, rk_x⟩ := u
  replace hW : xt_W D A ss.heap (xX ad cI cL S K n wc_x dn w_x lw_x sy sb_x sh_x rw_x rk_x dr ++ xM am cI cL S K n iz dz tp bt wm ro wa ch al fr) H locs := hW
  replace hpx : rx = nI (xq_lsm S K n w sy) ∧ (∀ z1 z2 z3, xq_kr S K z1 z2 z3 → w_x ((z1 * 3 + z2) * 4 + z3) = xq_lv S K n w sy z1 z2 z3) ∧ (∀ z1, z1 < 36 → w_x z1 ≤ 9) ∧ (∀ z1, z1 < 36 → lw_x z1 ≤ 9) ∧ xq_ok S n w_x sy sb_x sh_x wc_x rw_x rk_x := hpx
  obtain ⟨rfl, hpx⟩ := hpx
  refine lv_aload_n C.1 C.2.1 dL_law_595 rfl (lv_at hl 3 rfl) ?_
  refine xt_ciR hA hW (xt_runV C (xt_PR hW.1) (xt_DR hW.2.1) cwL_X1_learn (cm_learn l D cI cL am S K n iz dz tp bt wm ro wa ch al fr (hM)) rfl rfl rfl hl.1 (rest := [.int (nI (xq_lsm S K n w sy))]) rfl (Nat.le_of_ble_eq_true rfl) ⟨(Nat.le_of_ble_eq_true rfl), (Nat.le_of_ble_eq_true rfl)⟩ ⟨(Nat.le_of_ble_eq_true rfl), (Nat.le_of_ble_eq_true rfl)⟩ dL_law_596) (fun rm u H locs hpm hW => ?_)
  obtain ⟨w_m, wa_m, tp_m, bt_m, fr_m⟩ := u
  replace hW : xt_W D A ss.heap (xX ad cI cL S K n wc_x dn w_x lw_x sy sb_x sh_x rw_x rk_x dr ++ xM am cI cL S K n iz dz tp_m bt_m w_m ro wa_m ch al fr_m) H locs := hW
  replace hpm : rm = nI (mq_lsm S K n wm ro) ∧ (∀ z1 z2 z3, xq_kr S K z1 z2 z3 → w_m (mq_sl z1 z2 z3) = mq_lv S K n wm ro z1 z2 z3) ∧ (∀ z1, z1 < 24 → w_m z1 ≤ 9) := hpm
  obtain ⟨rfl, hpm⟩ := hpm
  rw [rl_lsm hS0 he g2 g1]
  refine lv_icmp_eq C.1 C.2.1 dL_law_599 (tgt := 680) (by decide) (fun _ => ?_) (fun h => absurd rfl h)
  exact ih S K n wc_x dn w_x lw_x sy sb_x sh_x rw_x rk_x dr iz dz tp_m bt_m w_m ro wa_m ch al fr_m ls H locs (rl_learn hR hpx.1 hpx.2.1 hpx.2.2.1 hpx.2.2.2 hpm.1 hpm.2) hl hW
set_option maxHeartbeats 4000000 in
set_option maxRecDepth 100000 in
theorem lw_c16 {pg : Program} {l : Launch} {ev : Env} {ss : State} {mi : MethodId} {below : List Frame} {meth : Method} {cd : Code} {D : va_G} {cI cL : ClassId} {A : Nat → Prop} {Q : State → Prop} {b L : Nat} {xs : Nat → Int32} {ad am : Nat → Nat} (KK : lw_K pg ss mi cd D cI cL A b L xs) {i : Nat} (hi : i + 5 ≤ L) (ih : lw_I pg l ev ss mi b below meth cd D cI cL ad am A Q i) {S K n wc dn : Nat} {w lw sy sb sh rw rk dr : Nat → Nat} {iz dz tp bt : Nat} {wm ro wa ch al fr : Nat → Nat} {ls : Array Slot} {H : Heap} {locs : List Loc} (hR : rl_R S K n wc dn w lw sy sb sh rw rk dr iz dz wm ro ch) (hl : lv_has ls 4 [(3, .int (nI i)), (0, .ref b), (1, .ref (ad 0)), (2, .ref (am 0))]) (hW : xt_W D A ss.heap (xX ad cI cL S K n wc dn w lw sy sb sh rw rk dr ++ xM am cI cL S K n iz dz tp bt wm ro wa ch al fr) H locs) : W pg l ev room_1 ss mi #[Value.ref b] below meth cd H locs 16 965 Q (F0 mi 604 ls []) := by
  obtain ⟨C, hX, hbl, hbA, hA, hL⟩ := KK
  have hR2 := hR
  obtain ⟨hV, hM, g1, g2, g3, g4⟩ := hR2
  have hV2 := hV
  obtain ⟨hS0, hS3, hK0, hK4, hn6, hw, hlw, hsK, hok⟩ := hV2
  have he := rl_e hsK g1 g2
  obtain ⟨uu, hu⟩ : ∃ u : Int64, u = (((xs (i + 1)).toInt64 <<< ((nI 32).toInt64 &&& 63)) ||| ( (xs (i + 2)).toInt64 &&& 4294967295)) := ⟨_, rfl⟩
  by_cases hy : ∃ z3, uu = lN z3 ∧ z3 < ms_sum (fun z1 => ms_wt (xe w sy) S n z1) (S ^ n)
  · obtain ⟨v, e1, hv⟩ := hy
    refine lv_aload_n C.1 C.2.1 dL_law_604 rfl (lv_at hl 2 rfl) ?_
    refine lv_aload_n C.1 C.2.1 dL_law_605 rfl (lv_at hl 1 rfl) ?_
    refine lv_iload_n C.1 C.2.1 dL_law_606 rfl (lv_at hl 0 rfl) ?_
    refine xt_iconst C 1 dL_law_607 (by decide +kernel) ?_
    refine xt_iadd C dL_law_608 ?_
    refine xt_sld C hX hbl hbA hW (by omega) hL dL_law_609 ?_
    refine lv_i2l C.1 C.2.1 dL_law_610 rfl ?_
    refine xt_bipush C 32 dL_law_611 (by decide +kernel) ?_
    refine lv_lshl C.1 C.2.1 dL_law_613 rfl ?_
    refine lv_aload_n C.1 C.2.1 dL_law_614 rfl (lv_at hl 1 rfl) ?_
    refine lv_iload_n C.1 C.2.1 dL_law_615 rfl (lv_at hl 0 rfl) ?_
    refine xt_iconst C 2 dL_law_616 (by decide +kernel) ?_
    refine xt_iadd C dL_law_617 ?_
    refine xt_sld C hX hbl hbA hW (by omega) hL dL_law_618 ?_
    refine lv_i2l C.1 C.2.1 dL_law_619 rfl ?_
    refine lv_ldc2 C.1 C.2.1 C.o (C.t clL_87) dL_law_620 ?_
    refine lv_land C.1 C.2.1 dL_law_623 ?_
    refine lv_lor C.1 C.2.1 dL_law_624 ?_
    rw [← hu, e1]
    refine xt_ciL hA hW (xt_runV C (xt_PL hW.1) (xt_DL hW.2.1) cwL_X0_draw (cx_draw_y l D cI cL ad S K n wc dn w lw sy sb sh rw rk dr v (hV) (hv)) rfl rfl rfl hl.1 (rest := []) rfl (Nat.le_of_ble_eq_true rfl) ⟨(Nat.le_of_ble_eq_true rfl), (Nat.le_of_ble_eq_true rfl)⟩ ⟨(Nat.le_of_ble_eq_true rfl), (Nat.le_of_ble_eq_true rfl)⟩ dL_law_625) (fun rx u H locs hpx hW => ?_)
    obtain ⟨dr_x, rfl⟩ : ∃ z, z = u := ⟨_, rfl⟩
    replace hW : xt_W D A ss.heap (xX ad cI cL S K n wc n w lw sy sb sh rw rk dr_x ++ xM am cI cL S K n iz dz tp bt wm ro wa ch al fr) H locs := hW
    replace hpx : rx = nI 1 ∧ ∃ z3, z3 < S ^ n ∧ ms_sum (fun z1 => ms_wt (xe w sy) S n z1) z3 ≤ v ∧ v < ms_sum (fun z1 => ms_wt (xe w sy) S n z1) (z3 + 1) ∧ ∀ z2, z2 < n → dr_x z2 = ms_dg S n z3 z2 := hpx
    obtain ⟨rfl, hpx⟩ := hpx
    refine lv_aload_n C.1 C.2.1 dL_law_628 rfl (lv_at hl 3 rfl) ?_
    refine lv_aload_n C.1 C.2.1 dL_law_629 rfl (lv_at hl 1 rfl) ?_
    refine lv_iload_n C.1 C.2.1 dL_law_630 rfl (lv_at hl 0 rfl) ?_
    refine xt_iconst C 1 dL_law_631 (by decide +kernel) ?_
    refine xt_iadd C dL_law_632 ?_
    refine xt_sld C hX hbl hbA hW (by omega) hL dL_law_633 ?_
    refine lv_i2l C.1 C.2.1 dL_law_634 rfl ?_
    refine xt_bipush C 32 dL_law_635 (by decide +kernel) ?_
    refine lv_lshl C.1 C.2.1 dL_law_637 rfl ?_
    refine lv_aload_n C.1 C.2.1 dL_law_638 rfl (lv_at hl 1 rfl) ?_
    refine lv_iload_n C.1 C.2.1 dL_law_639 rfl (lv_at hl 0 rfl) ?_
    refine xt_iconst C 2 dL_law_640 (by decide +kernel) ?_
    refine xt_iadd C dL_law_641 ?_
    refine xt_sld C hX hbl hbA hW (by omega) hL dL_law_642 ?_
    refine lv_i2l C.1 C.2.1 dL_law_643 rfl ?_
    refine lv_ldc2 C.1 C.2.1 C.o (C.t clL_87) dL_law_644 ?_
    refine lv_land C.1 C.2.1 dL_law_647 ?_
    refine lv_lor C.1 C.2.1 dL_law_648 ?_
    rw [← hu, e1]
    refine xt_ciR hA hW (xt_runV C (xt_PR hW.1) (xt_DR hW.2.1) cwL_X1_draw (cm_draw_y l D cI cL am S K n iz dz tp bt wm ro wa ch al fr v (hM) (by rw [← rl_tot hS0 he]; exact hv)) rfl rfl rfl hl.1 (rest := [.int (nI 1)]) rfl (Nat.le_of_ble_eq_true rfl) ⟨(Nat.le_of_ble_eq_true rfl), (Nat.le_of_ble_eq_true rfl)⟩ ⟨(Nat.le_of_ble_eq_true rfl), (Nat.le_of_ble_eq_true rfl)⟩ dL_law_649) (fun rm u H locs hpm hW => ?_)
    obtain ⟨wa_m, ch_m⟩ := u
    replace hW : xt_W D A ss.heap (xX ad cI cL S K n wc n w lw sy sb sh rw rk dr_x ++ xM am cI cL S K n 1 n tp bt wm ro wa_m ch_m al fr) H locs := hW
    replace hpm : rm = nI 1 ∧ ∃ z3, z3 < S ^ n ∧ ms_sum (fun z1 => ms_wt (me wm ro) S n z1) z3 ≤ v ∧ v < ms_sum (fun z1 => ms_wt (me wm ro) S n z1) (z3 + 1) ∧ ∀ z2, z2 < n → ch_m z2 = ms_dg S n z3 z2 := hpm
    obtain ⟨rfl, hpm⟩ := hpm
    refine lv_icmp_eq C.1 C.2.1 dL_law_652 (tgt := 680) (by decide) (fun _ => ?_) (fun h => absurd rfl h)
    exact ih S K n wc n w lw sy sb sh rw rk dr_x 1 n tp bt wm ro wa_m ch_m al fr ls H locs (by obtain ⟨z, a1, a2, a3, a4⟩ := hpx; obtain ⟨z2, b1, b2, b3, b4⟩ := hpm; exact rl_draw hR a2 a3 a4 b2 b3 b4) hl hW
  · refine lv_aload_n C.1 C.2.1 dL_law_604 rfl (lv_at hl 2 rfl) ?_
    refine lv_aload_n C.1 C.2.1 dL_law_605 rfl (lv_at hl 1 rfl) ?_
    refine lv_iload_n C.1 C.2.1 dL_law_606 rfl (lv_at hl 0 rfl) ?_
    refine xt_iconst C 1 dL_law_607 (by decide +kernel) ?_
    refine xt_iadd C dL_law_608 ?_
    refine xt_sld C hX hbl hbA hW (by omega) hL dL_law_609 ?_
    refine lv_i2l C.1 C.2.1 dL_law_610 rfl ?_
    refine xt_bipush C 32 dL_law_611 (by decide +kernel) ?_
    refine lv_lshl C.1 C.2.1 dL_law_613 rfl ?_
    refine lv_aload_n C.1 C.2.1 dL_law_614 rfl (lv_at hl 1 rfl) ?_
    refine lv_iload_n C.1 C.2.1 dL_law_615 rfl (lv_at hl 0 rfl) ?_
    refine xt_iconst C 2 dL_law_616 (by decide +kernel) ?_
    refine xt_iadd C dL_law_617 ?_
    refine xt_sld C hX hbl hbA hW (by omega) hL dL_law_618 ?_
    refine lv_i2l C.1 C.2.1 dL_law_619 rfl ?_
    refine lv_ldc2 C.1 C.2.1 C.o (C.t clL_87) dL_law_620 ?_
    refine lv_land C.1 C.2.1 dL_law_623 ?_
    refine lv_lor C.1 C.2.1 dL_law_624 ?_
    rw [← hu]
    refine xt_ciL hA hW (xt_runV C (xt_PL hW.1) (xt_DL hW.2.1) cwL_X0_draw (cx_draw_n l D cI cL ad S K n wc dn w lw sy sb sh rw rk dr uu (hV) (hy)) rfl rfl rfl hl.1 (rest := []) rfl (Nat.le_of_ble_eq_true rfl) ⟨(Nat.le_of_ble_eq_true rfl), (Nat.le_of_ble_eq_true rfl)⟩ ⟨(Nat.le_of_ble_eq_true rfl), (Nat.le_of_ble_eq_true rfl)⟩ dL_law_625) (fun rx u H locs hpx hW => ?_)
    replace hW : xt_W D A ss.heap (xX ad cI cL S K n wc dn w lw sy sb sh rw rk dr ++ xM am cI cL S K n iz dz tp bt wm ro wa ch al fr) H locs := hW
    subst hpx
    refine lv_aload_n C.1 C.2.1 dL_law_628 rfl (lv_at hl 3 rfl) ?_
    refine lv_aload_n C.1 C.2.1 dL_law_629 rfl (lv_at hl 1 rfl) ?_
    refine lv_iload_n C.1 C.2.1 dL_law_630 rfl (lv_at hl 0 rfl) ?_
    refine xt_iconst C 1 dL_law_631 (by decide +kernel) ?_
    refine xt_iadd C dL_law_632 ?_
    refine xt_sld C hX hbl hbA hW (by omega) hL dL_law_633 ?_
    refine lv_i2l C.1 C.2.1 dL_law_634 rfl ?_
    refine xt_bipush C 32 dL_law_635 (by decide +kernel) ?_
    refine lv_lshl C.1 C.2.1 dL_law_637 rfl ?_
    refine lv_aload_n C.1 C.2.1 dL_law_638 rfl (lv_at hl 1 rfl) ?_
    refine lv_iload_n C.1 C.2.1 dL_law_639 rfl (lv_at hl 0 rfl) ?_
    refine xt_iconst C 2 dL_law_640 (by decide +kernel) ?_
    refine xt_iadd C dL_law_641 ?_
    refine xt_sld C hX hbl hbA hW (by omega) hL dL_law_642 ?_
    refine lv_i2l C.1 C.2.1 dL_law_643 rfl ?_
    refine lv_ldc2 C.1 C.2.1 C.o (C.t clL_87) dL_law_644 ?_
    refine lv_land C.1 C.2.1 dL_law_647 ?_
    refine lv_lor C.1 C.2.1 dL_law_648 ?_
    rw [← hu]
    refine xt_ciR hA hW (xt_runV C (xt_PR hW.1) (xt_DR hW.2.1) cwL_X1_draw (cm_draw_n l D cI cL am S K n iz dz tp bt wm ro wa ch al fr uu (hM) (by rw [← rl_tot hS0 he]; exact hy)) rfl rfl rfl hl.1 (rest := [.int (nI 0)]) rfl (Nat.le_of_ble_eq_true rfl) ⟨(Nat.le_of_ble_eq_true rfl), (Nat.le_of_ble_eq_true rfl)⟩ ⟨(Nat.le_of_ble_eq_true rfl), (Nat.le_of_ble_eq_true rfl)⟩ dL_law_649) (fun rm u H locs hpm hW => ?_)
    obtain ⟨wa_m, rfl⟩ : ∃ z, z = u := ⟨_, rfl⟩
    replace hW : xt_W D A ss.heap (xX ad cI cL S K n wc dn w lw sy sb sh rw rk dr ++ xM am cI cL S K n iz dz tp bt wm ro wa_m ch al fr) H locs := hW
    subst hpm
    refine lv_icmp_eq C.1 C.2.1 dL_law_652 (tgt := 680) (by decide) (fun _ => ?_) (fun h => absurd rfl h)
    exact ih S K n wc dn w lw sy sb sh rw rk dr iz dz tp bt wm ro wa_m ch al fr ls H locs (hR) hl hW
set_option maxHeartbeats 4000000 in
set_option maxRecDepth 100000 in
theorem lw_c17 {pg : Program} {l : Launch} {ev : Env} {ss : State} {mi : MethodId} {below : List Frame} {meth : Method} {cd : Code} {D : va_G} {cI cL : ClassId} {A : Nat → Prop} {Q : State → Prop} {b L : Nat} {xs : Nat → Int32} {ad am : Nat → Nat} (KK : lw_K pg ss mi cd D cI cL A b L xs) {i : Nat} (hi : i + 5 ≤ L) (ih : lw_I pg l ev ss mi b below meth cd D cI cL ad am A Q i) {S K n wc dn : Nat} {w lw sy sb sh rw rk dr : Nat → Nat} {iz dz tp bt : Nat} {wm ro wa ch al fr : Nat → Nat} {ls : Array Slot} {H : Heap} {locs : List Loc} (hR : rl_R S K n wc dn w lw sy sb sh rw rk dr iz dz wm ro ch) (hl : lv_has ls 4 [(3, .int (nI i)), (0, .ref b), (1, .ref (ad 0)), (2, .ref (am 0))]) (hW : xt_W D A ss.heap (xX ad cI cL S K n wc dn w lw sy sb sh rw rk dr ++ xM am cI cL S K n iz dz tp bt wm ro wa ch al fr) H locs) : W pg l ev room_1 ss mi #[Value.ref b] below meth cd H locs 16 965 Q (F0 mi 657 ls []) := by
  obtain ⟨C, hX, hbl, hbA, hA, hL⟩ := KK
  have hR2 := hR
  obtain ⟨hV, hM, g1, g2, g3, g4⟩ := hR2
  have hV2 := hV
  obtain ⟨hS0, hS3, hK0, hK4, hn6, hw, hlw, hsK, hok⟩ := hV2
  have he := rl_e hsK g1 g2
  by_cases hy : ∃ j, j < dn ∧ xs (i + 1) = nI j
  · obtain ⟨j, hj, e1⟩ := hy
    obtain ⟨d1, d2, d3⟩ : iz = 1 ∧ dz = dn ∧ ∀ q, q < dn → dr q = ch q := by rcases g4 with d | d; (exact d); (exfalso; omega)
    refine lv_aload_n C.1 C.2.1 dL_law_657 rfl (lv_at hl 2 rfl) ?_
    refine lv_aload_n C.1 C.2.1 dL_law_658 rfl (lv_at hl 1 rfl) ?_
    refine lv_iload_n C.1 C.2.1 dL_law_659 rfl (lv_at hl 0 rfl) ?_
    refine xt_iconst C 1 dL_law_660 (by decide +kernel) ?_
    refine xt_iadd C dL_law_661 ?_
    refine xt_sld C hX hbl hbA hW (by omega) hL dL_law_662 ?_
    rw [e1]
    refine xt_ciL hA hW (xt_runV C (xt_PL hW.1) (xt_DL hW.2.1) cwL_X0_drawn (cx_drawn_y l D cI cL ad S K n wc dn w lw sy sb sh rw rk dr j (g3.1) (hj)) rfl rfl rfl hl.1 (rest := []) rfl (Nat.le_of_ble_eq_true rfl) ⟨(Nat.le_of_ble_eq_true rfl), (Nat.le_of_ble_eq_true rfl)⟩ ⟨(Nat.le_of_ble_eq_true rfl), (Nat.le_of_ble_eq_true rfl)⟩ dL_law_663) (fun rx u H locs hpx hW => ?_)
    replace hW : xt_W D A ss.heap (xX ad cI cL S K n wc dn w lw sy sb sh rw rk dr ++ xM am cI cL S K n iz dz tp bt wm ro wa ch al fr) H locs := hW
    subst hpx
    refine lv_aload_n C.1 C.2.1 dL_law_666 rfl (lv_at hl 3 rfl) ?_
    refine lv_aload_n C.1 C.2.1 dL_law_667 rfl (lv_at hl 1 rfl) ?_
    refine lv_iload_n C.1 C.2.1 dL_law_668 rfl (lv_at hl 0 rfl) ?_
    refine xt_iconst C 1 dL_law_669 (by decide +kernel) ?_
    refine xt_iadd C dL_law_670 ?_
    refine xt_sld C hX hbl hbA hW (by omega) hL dL_law_671 ?_
    rw [e1]
    refine xt_ciR hA hW (xt_runV C (xt_PR hW.1) (xt_DR hW.2.1) cwL_X1_drawn (cm_drawn_y l D cI cL am S K n iz dz tp bt wm ro wa ch al fr j (g3.2) (by omega) (d1)) rfl rfl rfl hl.1 (rest := [.int (nI (dr j))]) rfl (Nat.le_of_ble_eq_true rfl) ⟨(Nat.le_of_ble_eq_true rfl), (Nat.le_of_ble_eq_true rfl)⟩ ⟨(Nat.le_of_ble_eq_true rfl), (Nat.le_of_ble_eq_true rfl)⟩ dL_law_672) (fun rm u H locs hpm hW => ?_)
    replace hW : xt_W D A ss.heap (xX ad cI cL S K n wc dn w lw sy sb sh rw rk dr ++ xM am cI cL S K n iz dz tp bt wm ro wa ch al fr) H locs := hW
    subst hpm
    rw [d3 j hj]
    refine lv_icmp_eq C.1 C.2.1 dL_law_675 (tgt := 680) (by decide) (fun _ => ?_) (fun h => absurd rfl h)
    exact ih S K n wc dn w lw sy sb sh rw rk dr iz dz tp bt wm ro wa ch al fr ls H locs (hR) hl hW
  · refine lv_aload_n C.1 C.2.1 dL_law_657 rfl (lv_at hl 2 rfl) ?_
    refine lv_aload_n C.1 C.2.1 dL_law_658 rfl (lv_at hl 1 rfl) ?_
    refine lv_iload_n C.1 C.2.1 dL_law_659 rfl (lv_at hl 0 rfl) ?_
    refine xt_iconst C 1 dL_law_660 (by decide +kernel) ?_
    refine xt_iadd C dL_law_661 ?_
    refine xt_sld C hX hbl hbA hW (by omega) hL dL_law_662 ?_
    refine xt_ciL hA hW (xt_runV C (xt_PL hW.1) (xt_DL hW.2.1) cwL_X0_drawn (cx_drawn_n l D cI cL ad S K n wc dn w lw sy sb sh rw rk dr (xs (i + 1)) (g3.1) (hy)) rfl rfl rfl hl.1 (rest := []) rfl (Nat.le_of_ble_eq_true rfl) ⟨(Nat.le_of_ble_eq_true rfl), (Nat.le_of_ble_eq_true rfl)⟩ ⟨(Nat.le_of_ble_eq_true rfl), (Nat.le_of_ble_eq_true rfl)⟩ dL_law_663) (fun rx u H locs hpx hW => ?_)
    replace hW : xt_W D A ss.heap (xX ad cI cL S K n wc dn w lw sy sb sh rw rk dr ++ xM am cI cL S K n iz dz tp bt wm ro wa ch al fr) H locs := hW
    subst hpx
    refine lv_aload_n C.1 C.2.1 dL_law_666 rfl (lv_at hl 3 rfl) ?_
    refine lv_aload_n C.1 C.2.1 dL_law_667 rfl (lv_at hl 1 rfl) ?_
    refine lv_iload_n C.1 C.2.1 dL_law_668 rfl (lv_at hl 0 rfl) ?_
    refine xt_iconst C 1 dL_law_669 (by decide +kernel) ?_
    refine xt_iadd C dL_law_670 ?_
    refine xt_sld C hX hbl hbA hW (by omega) hL dL_law_671 ?_
    refine xt_ciR hA hW (xt_runV C (xt_PR hW.1) (xt_DR hW.2.1) cwL_X1_drawn (cm_drawn_n l D cI cL am S K n iz dz tp bt wm ro wa ch al fr (xs (i + 1)) (g3.2) (by rcases g4 with d | d <;> omega) (fun q => by rcases g4 with d | d; (rw [d.2.1] at q; exact hy q.2); (have := q.1; omega))) rfl rfl rfl hl.1 (rest := [.int (-1)]) rfl (Nat.le_of_ble_eq_true rfl) ⟨(Nat.le_of_ble_eq_true rfl), (Nat.le_of_ble_eq_true rfl)⟩ ⟨(Nat.le_of_ble_eq_true rfl), (Nat.le_of_ble_eq_true rfl)⟩ dL_law_672) (fun rm u H locs hpm hW => ?_)
    replace hW : xt_W D A ss.heap (xX ad cI cL S K n wc dn w lw sy sb sh rw rk dr ++ xM am cI cL S K n iz dz tp bt wm ro wa ch al fr) H locs := hW
    subst hpm
    refine lv_icmp_eq C.1 C.2.1 dL_law_675 (tgt := 680) (by decide) (fun _ => ?_) (fun h => absurd rfl h)
    exact ih S K n wc dn w lw sy sb sh rw rk dr iz dz tp bt wm ro wa ch al fr ls H locs (hR) hl hW
