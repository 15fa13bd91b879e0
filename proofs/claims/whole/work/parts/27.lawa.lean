/-! the law's body -/
def lw_K (pg : Program) (ss : State) (mi : MethodId) (cd : Code) (D : va_G) (cI cL : ClassId) (A : Nat → Prop) (b L : Nat) (xs : Nat → Int32) : Prop :=
  xt_C pg ss mi #[Value.ref b] cd cL_law 4 RL D cI cL ∧ va_X b L xs ss ss.heap ∧ b < ss.heap.size ∧ ¬ A b ∧ (∀ q, ss.heap.size ≤ q → A q) ∧ L ≤ 2560
/-- behind a call, at 680: what the loop does next -/
def lw_I (pg : Program) (l : Launch) (ev : Env) (ss : State) (mi : MethodId) (b : Nat) (below : List Frame) (meth : Method) (cd : Code) (D : va_G) (cI cL : ClassId) (ad am : Nat → Nat) (A : Nat → Prop) (Q : State → Prop) (i : Nat) : Prop :=
  ∀ (S K n wc dn : Nat) (w lw sy sb sh rw rk dr : Nat → Nat) (iz dz tp bt : Nat) (wm ro wa ch al fr : Nat → Nat) (ls : Array Slot) (H : Heap) (locs : List Loc), rl_R S K n wc dn w lw sy sb sh rw rk dr iz dz wm ro ch → lv_has ls 4 [(3, .int (nI i)), (0, .ref b), (1, .ref (ad 0)), (2, .ref (am 0))] → xt_W D A ss.heap (xX ad cI cL S K n wc dn w lw sy sb sh rw rk dr ++ xM am cI cL S K n iz dz tp bt wm ro wa ch al fr) H locs → W pg l ev room_1 ss mi #[Value.ref b] below meth cd H locs 16 965 Q (F0 mi 680 ls [])
theorem xt_sld {pg : Program} {l : Launch} {ev : Env} {R : Room} {ss : State} {mi : MethodId} {args : Array Value} {below : List Frame} {meth : Method} {cd : Code} {D : va_G} {cI cL : ClassId} {A : Nat → Prop} {Q : State → Prop} {b L : Nat} {xs : Nat → Int32} {H : Heap} {locs : List Loc} {cells slots : Nat} {cc : ByteArray} {pc nL : Nat} {ls : Array Slot} {rest : List Value} {own : String} {ws : va_W}
    (C : xt_C pg ss mi args cd cc nL own D cI cL) (hX : va_X b L xs ss ss.heap) (hbl : b < ss.heap.size) (hbA : ¬ A b) (w : xt_W D A ss.heap ws H locs) {k : Nat} (hk : k < L) (hL : L ≤ 2560) (hdg : decode cc pc = .ok (.iaload, 1))
    (kk : W pg l ev R ss mi args below meth cd H locs cells slots Q (F0 mi (pc + 1) ls (.int (xs k) :: rest))) : W pg l ev R ss mi args below meth cd H locs cells slots Q (F0 mi pc ls (.int (nI k) :: .ref b :: rest)) :=
  va_sld C.1 C.2.1 hX hbl hbA w.2.2 (vp_in_nI hk (by omega)) hdg (by rw [nI_clamp (by omega)]; exact kk)
theorem lw_sr {S K n a b c : Nat} (h : xq_kr S K a b c) (h0 : a ≠ 0) : xq_sr S K n a b c := by
  unfold xq_kr at h
  unfold xq_sr
  omega
set_option maxHeartbeats 4000000 in
set_option maxRecDepth 100000 in
theorem lw_c0 {pg : Program} {l : Launch} {ev : Env} {ss : State} {mi : MethodId} {below : List Frame} {meth : Method} {cd : Code} {D : va_G} {cI cL : ClassId} {A : Nat → Prop} {Q : State → Prop} {b L : Nat} {xs : Nat → Int32} {ad am : Nat → Nat} (KK : lw_K pg ss mi cd D cI cL A b L xs) {i : Nat} (hi : i + 5 ≤ L) (ih : lw_I pg l ev ss mi b below meth cd D cI cL ad am A Q i) {S K n wc dn : Nat} {w lw sy sb sh rw rk dr : Nat → Nat} {iz dz tp bt : Nat} {wm ro wa ch al fr : Nat → Nat} {ls : Array Slot} {H : Heap} {locs : List Loc} (hR : rl_R S K n wc dn w lw sy sb sh rw rk dr iz dz wm ro ch) (hl : lv_has ls 4 [(3, .int (nI i)), (0, .ref b), (1, .ref (ad 0)), (2, .ref (am 0))]) (hW : xt_W D A ss.heap (xX ad cI cL S K n wc dn w lw sy sb sh rw rk dr ++ xM am cI cL S K n iz dz tp bt wm ro wa ch al fr) H locs) : W pg l ev room_1 ss mi #[Value.ref b] below meth cd H locs 16 965 Q (F0 mi 120 ls []) := by
  obtain ⟨C, hX, hbl, hbA, hA, hL⟩ := KK
  have hR2 := hR
  obtain ⟨hV, hM, g1, g2, g3, g4⟩ := hR2
  have hV2 := hV
  obtain ⟨hS0, hS3, hK0, hK4, hn6, hw, hlw, hsK, hok⟩ := hV2
  have he := rl_e hsK g1 g2
  by_cases hy : ∃ s k, xs (i + 1) = nI s ∧ xs (i + 2) = nI k ∧ 1 ≤ s ∧ s ≤ 3 ∧ 1 ≤ k ∧ k ≤ 4
  · obtain ⟨s, k, e1, e2, h1, h2, h3, h4⟩ := hy
    refine lv_aload_n C.1 C.2.1 dL_law_120 rfl (lv_at hl 2 rfl) ?_
    refine lv_aload_n C.1 C.2.1 dL_law_121 rfl (lv_at hl 1 rfl) ?_
    refine lv_iload_n C.1 C.2.1 dL_law_122 rfl (lv_at hl 0 rfl) ?_
    refine xt_iconst C 1 dL_law_123 (by decide +kernel) ?_
    refine xt_iadd C dL_law_124 ?_
    refine xt_sld C hX hbl hbA hW (by omega) hL dL_law_125 ?_
    refine lv_aload_n C.1 C.2.1 dL_law_126 rfl (lv_at hl 1 rfl) ?_
    refine lv_iload_n C.1 C.2.1 dL_law_127 rfl (lv_at hl 0 rfl) ?_
    refine xt_iconst C 2 dL_law_128 (by decide +kernel) ?_
    refine xt_iadd C dL_law_129 ?_
    refine xt_sld C hX hbl hbA hW (by omega) hL dL_law_130 ?_
    rw [e1, e2]
    refine xt_ciL hA hW (xt_runV C (xt_PL hW.1) (xt_DL hW.2.1) cwL_X0_size (cx_size_y l D cI cL ad S K n wc dn w lw sy sb sh rw rk dr s k (h1) (h2) (h3) (h4)) rfl rfl rfl hl.1 (rest := []) rfl (Nat.le_of_ble_eq_true rfl) ⟨(Nat.le_of_ble_eq_true rfl), (Nat.le_of_ble_eq_true rfl)⟩ ⟨(Nat.le_of_ble_eq_true rfl), (Nat.le_of_ble_eq_true rfl)⟩ dL_law_131) (fun rx u H locs hpx hW => ?_)
    obtain ⟨w_x, sb_x, sh_x, wc_x, rw_x, rk_x⟩ := u
    replace hW : xt_W D A ss.heap (xX ad cI cL s k 0 wc_x 0 w_x lw sy sb_x sh_x rw_x rk_x dr ++ xM am cI cL S K n iz dz tp bt wm ro wa ch al fr) H locs := hW
    replace hpx : rx = nI 1 ∧ (∀ j, j < 36 → w_x j = 1) ∧ xq_ok s 0 w_x sy sb_x sh_x wc_x rw_x rk_x := hpx
    obtain ⟨rfl, hpx⟩ := hpx
    refine lv_aload_n C.1 C.2.1 dL_law_134 rfl (lv_at hl 3 rfl) ?_
    refine lv_aload_n C.1 C.2.1 dL_law_135 rfl (lv_at hl 1 rfl) ?_
    refine lv_iload_n C.1 C.2.1 dL_law_136 rfl (lv_at hl 0 rfl) ?_
    refine xt_iconst C 1 dL_law_137 (by decide +kernel) ?_
    refine xt_iadd C dL_law_138 ?_
    refine xt_sld C hX hbl hbA hW (by omega) hL dL_law_139 ?_
    refine lv_aload_n C.1 C.2.1 dL_law_140 rfl (lv_at hl 1 rfl) ?_
    refine lv_iload_n C.1 C.2.1 dL_law_141 rfl (lv_at hl 0 rfl) ?_
    refine xt_iconst C 2 dL_law_142 (by decide +kernel) ?_
    refine xt_iadd C dL_law_143 ?_
    refine xt_sld C hX hbl hbA hW (by omega) hL dL_law_144 ?_
    rw [e1, e2]
    refine xt_ciR hA hW (xt_runV C (xt_PR hW.1) (xt_DR hW.2.1) cwL_X1_size (cm_size_y l D cI cL am S K n iz dz tp bt wm ro wa ch al fr s k (h1) (h2) (h3) (h4)) rfl rfl rfl hl.1 (rest := [.int (nI 1)]) rfl (Nat.le_of_ble_eq_true rfl) ⟨(Nat.le_of_ble_eq_true rfl), (Nat.le_of_ble_eq_true rfl)⟩ ⟨(Nat.le_of_ble_eq_true rfl), (Nat.le_of_ble_eq_true rfl)⟩ dL_law_145) (fun rm u H locs hpm hW => ?_)
    obtain ⟨w_m, rfl⟩ : ∃ z, z = u := ⟨_, rfl⟩
    replace hW : xt_W D A ss.heap (xX ad cI cL s k 0 wc_x 0 w_x lw sy sb_x sh_x rw_x rk_x dr ++ xM am cI cL s k 0 0 dz tp bt w_m ro wa ch al fr) H locs := hW
    replace hpm : rm = nI 1 ∧ ∀ j, j < 24 → w_m j = 1 := hpm
    obtain ⟨rfl, hpm⟩ := hpm
    refine lv_icmp_eq C.1 C.2.1 dL_law_148 (tgt := 680) (by decide) (fun _ => ?_) (fun h => absurd rfl h)
    exact ih s k 0 wc_x 0 w_x lw sy sb_x sh_x rw_x rk_x dr 0 dz tp bt w_m ro wa ch al fr ls H locs (rl_size hR h1 h2 h3 h4 hpx.1 hpx.2 hpm) hl hW
  · refine lv_aload_n C.1 C.2.1 dL_law_120 rfl (lv_at hl 2 rfl) ?_
    refine lv_aload_n C.1 C.2.1 dL_law_121 rfl (lv_at hl 1 rfl) ?_
    refine lv_iload_n C.1 C.2.1 dL_law_122 rfl (lv_at hl 0 rfl) ?_
    refine xt_iconst C 1 dL_law_123 (by decide +kernel) ?_
    refine xt_iadd C dL_law_124 ?_
    refine xt_sld C hX hbl hbA hW (by omega) hL dL_law_125 ?_
    refine lv_aload_n C.1 C.2.1 dL_law_126 rfl (lv_at hl 1 rfl) ?_
    refine lv_iload_n C.1 C.2.1 dL_law_127 rfl (lv_at hl 0 rfl) ?_
    refine xt_iconst C 2 dL_law_128 (by decide +kernel) ?_
    refine xt_iadd C dL_law_129 ?_
    refine xt_sld C hX hbl hbA hW (by omega) hL dL_law_130 ?_
    refine xt_ciL hA hW (xt_runV C (xt_PL hW.1) (xt_DL hW.2.1) cwL_X0_size (cx_size_n l D cI cL ad S K n wc dn w lw sy sb sh rw rk dr (xs (i + 1)) (xs (i + 2)) (hy)) rfl rfl rfl hl.1 (rest := []) rfl (Nat.le_of_ble_eq_true rfl) ⟨(Nat.le_of_ble_eq_true rfl), (Nat.le_of_ble_eq_true rfl)⟩ ⟨(Nat.le_of_ble_eq_true rfl), (Nat.le_of_ble_eq_true rfl)⟩ dL_law_131) (fun rx u H locs hpx hW => ?_)
    replace hW : xt_W D A ss.heap (xX ad cI cL S K n wc dn w lw sy sb sh rw rk dr ++ xM am cI cL S K n iz dz tp bt wm ro wa ch al fr) H locs := hW
    subst hpx
    refine lv_aload_n C.1 C.2.1 dL_law_134 rfl (lv_at hl 3 rfl) ?_
    refine lv_aload_n C.1 C.2.1 dL_law_135 rfl (lv_at hl 1 rfl) ?_
    refine lv_iload_n C.1 C.2.1 dL_law_136 rfl (lv_at hl 0 rfl) ?_
    refine xt_iconst C 1 dL_law_137 (by decide +kernel) ?_
    refine xt_iadd C dL_law_138 ?_
    refine xt_sld C hX hbl hbA hW (by omega) hL dL_law_139 ?_
    refine lv_aload_n C.1 C.2.1 dL_law_140 rfl (lv_at hl 1 rfl) ?_
    refine lv_iload_n C.1 C.2.1 dL_law_141 rfl (lv_at hl 0 rfl) ?_
    refine xt_iconst C 2 dL_law_142 (by decide +kernel) ?_
    refine xt_iadd C dL_law_143 ?_
    refine xt_sld C hX hbl hbA hW (by omega) hL dL_law_144 ?_
    refine xt_ciR hA hW (xt_runV C (xt_PR hW.1) (xt_DR hW.2.1) cwL_X1_size (cm_size_n l D cI cL am S K n iz dz tp bt wm ro wa ch al fr (xs (i + 1)) (xs (i + 2)) (hy)) rfl rfl rfl hl.1 (rest := [.int (nI 0)]) rfl (Nat.le_of_ble_eq_true rfl) ⟨(Nat.le_of_ble_eq_true rfl), (Nat.le_of_ble_eq_true rfl)⟩ ⟨(Nat.le_of_ble_eq_true rfl), (Nat.le_of_ble_eq_true rfl)⟩ dL_law_145) (fun rm u H locs hpm hW => ?_)
    replace hW : xt_W D A ss.heap (xX ad cI cL S K n wc dn w lw sy sb sh rw rk dr ++ xM am cI cL S K n iz dz tp bt wm ro wa ch al fr) H locs := hW
    subst hpm
    refine lv_icmp_eq C.1 C.2.1 dL_law_148 (tgt := 680) (by decide) (fun _ => ?_) (fun h => absurd rfl h)
    exact ih S K n wc dn w lw sy sb sh rw rk dr iz dz tp bt wm ro wa ch al fr ls H locs (hR) hl hW
set_option maxHeartbeats 4000000 in
set_option maxRecDepth 100000 in
theorem lw_c1 {pg : Program} {l : Launch} {ev : Env} {ss : State} {mi : MethodId} {below : List Frame} {meth : Method} {cd : Code} {D : va_G} {cI cL : ClassId} {A : Nat → Prop} {Q : State → Prop} {b L : Nat} {xs : Nat → Int32} {ad am : Nat → Nat} (KK : lw_K pg ss mi cd D cI cL A b L xs) {i : Nat} (hi : i + 5 ≤ L) (ih : lw_I pg l ev ss mi b below meth cd D cI cL ad am A Q i) {S K n wc dn : Nat} {w lw sy sb sh rw rk dr : Nat → Nat} {iz dz tp bt : Nat} {wm ro wa ch al fr : Nat → Nat} {ls : Array Slot} {H : Heap} {locs : List Loc} (hR : rl_R S K n wc dn w lw sy sb sh rw rk dr iz dz wm ro ch) (hl : lv_has ls 4 [(3, .int (nI i)), (0, .ref b), (1, .ref (ad 0)), (2, .ref (am 0))]) (hW : xt_W D A ss.heap (xX ad cI cL S K n wc dn w lw sy sb sh rw rk dr ++ xM am cI cL S K n iz dz tp bt wm ro wa ch al fr) H locs) : W pg l ev room_1 ss mi #[Value.ref b] below meth cd H locs 16 965 Q (F0 mi 153 ls []) := by
  obtain ⟨C, hX, hbl, hbA, hA, hL⟩ := KK
  have hR2 := hR
  obtain ⟨hV, hM, g1, g2, g3, g4⟩ := hR2
  have hV2 := hV
  obtain ⟨hS0, hS3, hK0, hK4, hn6, hw, hlw, hsK, hok⟩ := hV2
  have he := rl_e hsK g1 g2
  by_cases hy : (∃ a b c, xt_ok S K (xs (i + 1)) (xs (i + 2)) (xs (i + 3)) a b c) ∧ ∃ v, v ≤ 9 ∧ xs (i + 4) = nI v
  · obtain ⟨⟨ka, kb, kc, e1, e2, e3, hk⟩, v, hv, e4⟩ := hy
    refine lv_aload_n C.1 C.2.1 dL_law_153 rfl (lv_at hl 2 rfl) ?_
    refine lv_aload_n C.1 C.2.1 dL_law_154 rfl (lv_at hl 1 rfl) ?_
    refine lv_iload_n C.1 C.2.1 dL_law_155 rfl (lv_at hl 0 rfl) ?_
    refine xt_iconst C 1 dL_law_156 (by decide +kernel) ?_
    refine xt_iadd C dL_law_157 ?_
    refine xt_sld C hX hbl hbA hW (by omega) hL dL_law_158 ?_
    refine lv_aload_n C.1 C.2.1 dL_law_159 rfl (lv_at hl 1 rfl) ?_
    refine lv_iload_n C.1 C.2.1 dL_law_160 rfl (lv_at hl 0 rfl) ?_
    refine xt_iconst C 2 dL_law_161 (by decide +kernel) ?_
    refine xt_iadd C dL_law_162 ?_
    refine xt_sld C hX hbl hbA hW (by omega) hL dL_law_163 ?_
    refine lv_aload_n C.1 C.2.1 dL_law_164 rfl (lv_at hl 1 rfl) ?_
    refine lv_iload_n C.1 C.2.1 dL_law_165 rfl (lv_at hl 0 rfl) ?_
    refine xt_iconst C 3 dL_law_166 (by decide +kernel) ?_
    refine xt_iadd C dL_law_167 ?_
    refine xt_sld C hX hbl hbA hW (by omega) hL dL_law_168 ?_
    refine lv_aload_n C.1 C.2.1 dL_law_169 rfl (lv_at hl 1 rfl) ?_
    refine lv_iload_n C.1 C.2.1 dL_law_170 rfl (lv_at hl 0 rfl) ?_
    refine xt_iconst C 4 dL_law_171 (by decide +kernel) ?_
    refine xt_iadd C dL_law_172 ?_
    refine xt_sld C hX hbl hbA hW (by omega) hL dL_law_173 ?_
    rw [e1, e2, e3, e4]
    refine xt_ciL hA hW (xt_runV C (xt_PL hW.1) (xt_DL hW.2.1) cwL_X0_weigh (cx_weigh_y l D cI cL ad S K n wc dn w lw sy sb sh rw rk dr ka kb kc v (hV) (hk) (hv)) rfl rfl rfl hl.1 (rest := []) rfl (Nat.le_of_ble_eq_true rfl) ⟨(Nat.le_of_ble_eq_true rfl), (Nat.le_of_ble_eq_true rfl)⟩ ⟨(Nat.le_of_ble_eq_true rfl), (Nat.le_of_ble_eq_true rfl)⟩ dL_law_174) (fun rx u H locs hpx hW => ?_)
    obtain ⟨sb_x, sh_x, wc_x, rw_x, rk_x⟩ := u
    replace hW : xt_W D A ss.heap (xX ad cI cL S K n wc_x dn (va_up w ((ka * 3 + kb) * 4 + kc) v) lw sy sb_x sh_x rw_x rk_x dr ++ xM am cI cL S K n iz dz tp bt wm ro wa ch al fr) H locs := hW
    replace hpx : rx = nI 1 ∧ xq_ok S n (va_up w ((ka * 3 + kb) * 4 + kc) v) sy sb_x sh_x wc_x rw_x rk_x := hpx
    obtain ⟨rfl, hpx⟩ := hpx
    refine lv_aload_n C.1 C.2.1 dL_law_177 rfl (lv_at hl 3 rfl) ?_
    refine lv_aload_n C.1 C.2.1 dL_law_178 rfl (lv_at hl 1 rfl) ?_
    refine lv_iload_n C.1 C.2.1 dL_law_179 rfl (lv_at hl 0 rfl) ?_
    refine xt_iconst C 1 dL_law_180 (by decide +kernel) ?_
    refine xt_iadd C dL_law_181 ?_
    refine xt_sld C hX hbl hbA hW (by omega) hL dL_law_182 ?_
    refine lv_aload_n C.1 C.2.1 dL_law_183 rfl (lv_at hl 1 rfl) ?_
    refine lv_iload_n C.1 C.2.1 dL_law_184 rfl (lv_at hl 0 rfl) ?_
    refine xt_iconst C 2 dL_law_185 (by decide +kernel) ?_
    refine xt_iadd C dL_law_186 ?_
    refine xt_sld C hX hbl hbA hW (by omega) hL dL_law_187 ?_
    refine lv_aload_n C.1 C.2.1 dL_law_188 rfl (lv_at hl 1 rfl) ?_
    refine lv_iload_n C.1 C.2.1 dL_law_189 rfl (lv_at hl 0 rfl) ?_
    refine xt_iconst C 3 dL_law_190 (by decide +kernel) ?_
    refine xt_iadd C dL_law_191 ?_
    refine xt_sld C hX hbl hbA hW (by omega) hL dL_law_192 ?_
    refine lv_aload_n C.1 C.2.1 dL_law_193 rfl (lv_at hl 1 rfl) ?_
    refine lv_iload_n C.1 C.2.1 dL_law_194 rfl (lv_at hl 0 rfl) ?_
    refine xt_iconst C 4 dL_law_195 (by decide +kernel) ?_
    refine xt_iadd C dL_law_196 ?_
    refine xt_sld C hX hbl hbA hW (by omega) hL dL_law_197 ?_
    rw [e1, e2, e3, e4]
    refine xt_ciR hA hW (xt_runV C (xt_PR hW.1) (xt_DR hW.2.1) cwL_X1_weigh (cm_weigh_y l D cI cL am S K n iz dz tp bt wm ro wa ch al fr ka kb kc v (hM) (hk) (hv)) rfl rfl rfl hl.1 (rest := [.int (nI 1)]) rfl (Nat.le_of_ble_eq_true rfl) ⟨(Nat.le_of_ble_eq_true rfl), (Nat.le_of_ble_eq_true rfl)⟩ ⟨(Nat.le_of_ble_eq_true rfl), (Nat.le_of_ble_eq_true rfl)⟩ dL_law_198) (fun rm u H locs hpm hW => ?_)
    replace hW : xt_W D A ss.heap (xX ad cI cL S K n wc_x dn (va_up w ((ka * 3 + kb) * 4 + kc) v) lw sy sb_x sh_x rw_x rk_x dr ++ xM am cI cL S K n iz dz tp bt (va_up wm (mq_sl ka kb kc) v) ro wa ch al fr) H locs := hW
    subst hpm
    refine lv_icmp_eq C.1 C.2.1 dL_law_201 (tgt := 680) (by decide) (fun _ => ?_) (fun h => absurd rfl h)
    exact ih S K n wc_x dn (va_up w ((ka * 3 + kb) * 4 + kc) v) lw sy sb_x sh_x rw_x rk_x dr iz dz tp bt (va_up wm (mq_sl ka kb kc) v) ro wa ch al fr ls H locs (rl_weigh hR hk hv hpx) hl hW
  · refine lv_aload_n C.1 C.2.1 dL_law_153 rfl (lv_at hl 2 rfl) ?_
    refine lv_aload_n C.1 C.2.1 dL_law_154 rfl (lv_at hl 1 rfl) ?_
    refine lv_iload_n C.1 C.2.1 dL_law_155 rfl (lv_at hl 0 rfl) ?_
    refine xt_iconst C 1 dL_law_156 (by decide +kernel) ?_
    refine xt_iadd C dL_law_157 ?_
    refine xt_sld C hX hbl hbA hW (by omega) hL dL_law_158 ?_
    refine lv_aload_n C.1 C.2.1 dL_law_159 rfl (lv_at hl 1 rfl) ?_
    refine lv_iload_n C.1 C.2.1 dL_law_160 rfl (lv_at hl 0 rfl) ?_
    refine xt_iconst C 2 dL_law_161 (by decide +kernel) ?_
    refine xt_iadd C dL_law_162 ?_
    refine xt_sld C hX hbl hbA hW (by omega) hL dL_law_163 ?_
    refine lv_aload_n C.1 C.2.1 dL_law_164 rfl (lv_at hl 1 rfl) ?_
    refine lv_iload_n C.1 C.2.1 dL_law_165 rfl (lv_at hl 0 rfl) ?_
    refine xt_iconst C 3 dL_law_166 (by decide +kernel) ?_
    refine xt_iadd C dL_law_167 ?_
    refine xt_sld C hX hbl hbA hW (by omega) hL dL_law_168 ?_
    refine lv_aload_n C.1 C.2.1 dL_law_169 rfl (lv_at hl 1 rfl) ?_
    refine lv_iload_n C.1 C.2.1 dL_law_170 rfl (lv_at hl 0 rfl) ?_
    refine xt_iconst C 4 dL_law_171 (by decide +kernel) ?_
    refine xt_iadd C dL_law_172 ?_
    refine xt_sld C hX hbl hbA hW (by omega) hL dL_law_173 ?_
    refine xt_ciL hA hW (xt_runV C (xt_PL hW.1) (xt_DL hW.2.1) cwL_X0_weigh (cx_weigh_n l D cI cL ad S K n wc dn w lw sy sb sh rw rk dr (xs (i + 1)) (xs (i + 2)) (xs (i + 3)) (xs (i + 4)) (hV) (hy)) rfl rfl rfl hl.1 (rest := []) rfl (Nat.le_of_ble_eq_true rfl) ⟨(Nat.le_of_ble_eq_true rfl), (Nat.le_of_ble_eq_true rfl)⟩ ⟨(Nat.le_of_ble_eq_true rfl), (Nat.le_of_ble_eq_true rfl)⟩ dL_law_174) (fun rx u H locs hpx hW => ?_)
    replace hW : xt_W D A ss.heap (xX ad cI cL S K n wc dn w lw sy sb sh rw rk dr ++ xM am cI cL S K n iz dz tp bt wm ro wa ch al fr) H locs := hW
    subst hpx
    refine lv_aload_n C.1 C.2.1 dL_law_177 rfl (lv_at hl 3 rfl) ?_
    refine lv_aload_n C.1 C.2.1 dL_law_178 rfl (lv_at hl 1 rfl) ?_
    refine lv_iload_n C.1 C.2.1 dL_law_179 rfl (lv_at hl 0 rfl) ?_
    refine xt_iconst C 1 dL_law_180 (by decide +kernel) ?_
    refine xt_iadd C dL_law_181 ?_
    refine xt_sld C hX hbl hbA hW (by omega) hL dL_law_182 ?_
    refine lv_aload_n C.1 C.2.1 dL_law_183 rfl (lv_at hl 1 rfl) ?_
    refine lv_iload_n C.1 C.2.1 dL_law_184 rfl (lv_at hl 0 rfl) ?_
    refine xt_iconst C 2 dL_law_185 (by decide +kernel) ?_
    refine xt_iadd C dL_law_186 ?_
    refine xt_sld C hX hbl hbA hW (by omega) hL dL_law_187 ?_
    refine lv_aload_n C.1 C.2.1 dL_law_188 rfl (lv_at hl 1 rfl) ?_
    refine lv_iload_n C.1 C.2.1 dL_law_189 rfl (lv_at hl 0 rfl) ?_
    refine xt_iconst C 3 dL_law_190 (by decide +kernel) ?_
    refine xt_iadd C dL_law_191 ?_
    refine xt_sld C hX hbl hbA hW (by omega) hL dL_law_192 ?_
    refine lv_aload_n C.1 C.2.1 dL_law_193 rfl (lv_at hl 1 rfl) ?_
    refine lv_iload_n C.1 C.2.1 dL_law_194 rfl (lv_at hl 0 rfl) ?_
    refine xt_iconst C 4 dL_law_195 (by decide +kernel) ?_
    refine xt_iadd C dL_law_196 ?_
    refine xt_sld C hX hbl hbA hW (by omega) hL dL_law_197 ?_
    refine xt_ciR hA hW (xt_runV C (xt_PR hW.1) (xt_DR hW.2.1) cwL_X1_weigh (cm_weigh_n l D cI cL am S K n iz dz tp bt wm ro wa ch al fr (xs (i + 1)) (xs (i + 2)) (xs (i + 3)) (xs (i + 4)) (hM) (hy)) rfl rfl rfl hl.1 (rest := [.int (nI 0)]) rfl (Nat.le_of_ble_eq_true rfl) ⟨(Nat.le_of_ble_eq_true rfl), (Nat.le_of_ble_eq_true rfl)⟩ ⟨(Nat.le_of_ble_eq_true rfl), (Nat.le_of_ble_eq_true rfl)⟩ dL_law_198) (fun rm u H locs hpm hW => ?_)
    replace hW : xt_W D A ss.heap (xX ad cI cL S K n wc dn w lw sy sb sh rw rk dr ++ xM am cI cL S K n iz dz tp bt wm ro wa ch al fr) H locs := hW
    subst hpm
    refine lv_icmp_eq C.1 C.2.1 dL_law_201 (tgt := 680) (by decide) (fun _ => ?_) (fun h => absurd rfl h)
    exact ih S K n wc dn w lw sy sb sh rw rk dr iz dz tp bt wm ro wa ch al fr ls H locs (hR) hl hW
set_option maxHeartbeats 4000000 in
set_option maxRecDepth 100000 in
theorem lw_c2 {pg : Program} {l : Launch} {ev : Env} {ss : State} {mi : MethodId} {below : List Frame} {meth : Method} {cd : Code} {D : va_G} {cI cL : ClassId} {A : Nat → Prop} {Q : State → Prop} {b L : Nat} {xs : Nat → Int32} {ad am : Nat → Nat} (KK : lw_K pg ss mi cd D cI cL A b L xs) {i : Nat} (hi : i + 5 ≤ L) (ih : lw_I pg l ev ss mi b below meth cd D cI cL ad am A Q i) {S K n wc dn : Nat} {w lw sy sb sh rw rk dr : Nat → Nat} {iz dz tp bt : Nat} {wm ro wa ch al fr : Nat → Nat} {ls : Array Slot} {H : Heap} {locs : List Loc} (hR : rl_R S K n wc dn w lw sy sb sh rw rk dr iz dz wm ro ch) (hl : lv_has ls 4 [(3, .int (nI i)), (0, .ref b), (1, .ref (ad 0)), (2, .ref (am 0))]) (hW : xt_W D A ss.heap (xX ad cI cL S K n wc dn w lw sy sb sh rw rk dr ++ xM am cI cL S K n iz dz tp bt wm ro wa ch al fr) H locs) : W pg l ev room_1 ss mi #[Value.ref b] below meth cd H locs 16 965 Q (F0 mi 206 ls []) := by
  obtain ⟨C, hX, hbl, hbA, hA, hL⟩ := KK
  have hR2 := hR
  obtain ⟨hV, hM, g1, g2, g3, g4⟩ := hR2
  have hV2 := hV
  obtain ⟨hS0, hS3, hK0, hK4, hn6, hw, hlw, hsK, hok⟩ := hV2
  have he := rl_e hsK g1 g2
  by_cases hy : ∃ a b c, xt_ok S K (xs (i + 1)) (xs (i + 2)) (xs (i + 3)) a b c
  · obtain ⟨ka, kb, kc, e1, e2, e3, hk⟩ := hy
    refine lv_aload_n C.1 C.2.1 dL_law_206 rfl (lv_at hl 2 rfl) ?_
    refine lv_aload_n C.1 C.2.1 dL_law_207 rfl (lv_at hl 1 rfl) ?_
    refine lv_iload_n C.1 C.2.1 dL_law_208 rfl (lv_at hl 0 rfl) ?_
    refine xt_iconst C 1 dL_law_209 (by decide +kernel) ?_
    refine xt_iadd C dL_law_210 ?_
    refine xt_sld C hX hbl hbA hW (by omega) hL dL_law_211 ?_
    refine lv_aload_n C.1 C.2.1 dL_law_212 rfl (lv_at hl 1 rfl) ?_
    refine lv_iload_n C.1 C.2.1 dL_law_213 rfl (lv_at hl 0 rfl) ?_
    refine xt_iconst C 2 dL_law_214 (by decide +kernel) ?_
    refine xt_iadd C dL_law_215 ?_
    refine xt_sld C hX hbl hbA hW (by omega) hL dL_law_216 ?_
    refine lv_aload_n C.1 C.2.1 dL_law_217 rfl (lv_at hl 1 rfl) ?_
    refine lv_iload_n C.1 C.2.1 dL_law_218 rfl (lv_at hl 0 rfl) ?_
    refine xt_iconst C 3 dL_law_219 (by decide +kernel) ?_
    refine xt_iadd C dL_law_220 ?_
    refine xt_sld C hX hbl hbA hW (by omega) hL dL_law_221 ?_
    rw [e1, e2, e3]
    refine xt_ciL hA hW (xt_runV C (xt_PL hW.1) (xt_DL hW.2.1) cwL_X0_weight (cx_weight_y l D cI cL ad S K n wc dn w lw sy sb sh rw rk dr ka kb kc (hV) (hk)) rfl rfl rfl hl.1 (rest := []) rfl (Nat.le_of_ble_eq_true rfl) ⟨(Nat.le_of_ble_eq_true rfl), (Nat.le_of_ble_eq_true rfl)⟩ ⟨(Nat.le_of_ble_eq_true rfl), (Nat.le_of_ble_eq_true rfl)⟩ dL_law_222) (fun rx u H locs hpx hW => ?_)
    replace hW : xt_W D A ss.heap (xX ad cI cL S K n wc dn w lw sy sb sh rw rk dr ++ xM am cI cL S K n iz dz tp bt wm ro wa ch al fr) H locs := hW
    subst hpx
    refine lv_aload_n C.1 C.2.1 dL_law_225 rfl (lv_at hl 3 rfl) ?_
    refine lv_aload_n C.1 C.2.1 dL_law_226 rfl (lv_at hl 1 rfl) ?_
    refine lv_iload_n C.1 C.2.1 dL_law_227 rfl (lv_at hl 0 rfl) ?_
    refine xt_iconst C 1 dL_law_228 (by decide +kernel) ?_
    refine xt_iadd C dL_law_229 ?_
    refine xt_sld C hX hbl hbA hW (by omega) hL dL_law_230 ?_
    refine lv_aload_n C.1 C.2.1 dL_law_231 rfl (lv_at hl 1 rfl) ?_
    refine lv_iload_n C.1 C.2.1 dL_law_232 rfl (lv_at hl 0 rfl) ?_
    refine xt_iconst C 2 dL_law_233 (by decide +kernel) ?_
    refine xt_iadd C dL_law_234 ?_
    refine xt_sld C hX hbl hbA hW (by omega) hL dL_law_235 ?_
    refine lv_aload_n C.1 C.2.1 dL_law_236 rfl (lv_at hl 1 rfl) ?_
    refine lv_iload_n C.1 C.2.1 dL_law_237 rfl (lv_at hl 0 rfl) ?_
    refine xt_iconst C 3 dL_law_238 (by decide +kernel) ?_
    refine xt_iadd C dL_law_239 ?_
    refine xt_sld C hX hbl hbA hW (by omega) hL dL_law_240 ?_
    rw [e1, e2, e3]
    refine xt_ciR hA hW (xt_runV C (xt_PR hW.1) (xt_DR hW.2.1) cwL_X1_weight (cm_weight_y l D cI cL am S K n iz dz tp bt wm ro wa ch al fr ka kb kc (hM) (hk)) rfl rfl rfl hl.1 (rest := [.int (nI (w ((ka * 3 + kb) * 4 + kc)))]) rfl (Nat.le_of_ble_eq_true rfl) ⟨(Nat.le_of_ble_eq_true rfl), (Nat.le_of_ble_eq_true rfl)⟩ ⟨(Nat.le_of_ble_eq_true rfl), (Nat.le_of_ble_eq_true rfl)⟩ dL_law_241) (fun rm u H locs hpm hW => ?_)
    replace hW : xt_W D A ss.heap (xX ad cI cL S K n wc dn w lw sy sb sh rw rk dr ++ xM am cI cL S K n iz dz tp bt wm ro wa ch al fr) H locs := hW
    subst hpm
    rw [g1 ka kb kc hk]
    refine lv_icmp_eq C.1 C.2.1 dL_law_244 (tgt := 680) (by decide) (fun _ => ?_) (fun h => absurd rfl h)
    exact ih S K n wc dn w lw sy sb sh rw rk dr iz dz tp bt wm ro wa ch al fr ls H locs (hR) hl hW
  · refine lv_aload_n C.1 C.2.1 dL_law_206 rfl (lv_at hl 2 rfl) ?_
    refine lv_aload_n C.1 C.2.1 dL_law_207 rfl (lv_at hl 1 rfl) ?_
    refine lv_iload_n C.1 C.2.1 dL_law_208 rfl (lv_at hl 0 rfl) ?_
    refine xt_iconst C 1 dL_law_209 (by decide +kernel) ?_
    refine xt_iadd C dL_law_210 ?_
    refine xt_sld C hX hbl hbA hW (by omega) hL dL_law_211 ?_
    refine lv_aload_n C.1 C.2.1 dL_law_212 rfl (lv_at hl 1 rfl) ?_
    refine lv_iload_n C.1 C.2.1 dL_law_213 rfl (lv_at hl 0 rfl) ?_
    refine xt_iconst C 2 dL_law_214 (by decide +kernel) ?_
    refine xt_iadd C dL_law_215 ?_
    refine xt_sld C hX hbl hbA hW (by omega) hL dL_law_216 ?_
    refine lv_aload_n C.1 C.2.1 dL_law_217 rfl (lv_at hl 1 rfl) ?_
    refine lv_iload_n C.1 C.2.1 dL_law_218 rfl (lv_at hl 0 rfl) ?_
    refine xt_iconst C 3 dL_law_219 (by decide +kernel) ?_
    refine xt_iadd C dL_law_220 ?_
    refine xt_sld C hX hbl hbA hW (by omega) hL dL_law_221 ?_
    refine xt_ciL hA hW (xt_runV C (xt_PL hW.1) (xt_DL hW.2.1) cwL_X0_weight (cx_weight_n l D cI cL ad S K n wc dn w lw sy sb sh rw rk dr (xs (i + 1)) (xs (i + 2)) (xs (i + 3)) (hV) (hy)) rfl rfl rfl hl.1 (rest := []) rfl (Nat.le_of_ble_eq_true rfl) ⟨(Nat.le_of_ble_eq_true rfl), (Nat.le_of_ble_eq_true rfl)⟩ ⟨(Nat.le_of_ble_eq_true rfl), (Nat.le_of_ble_eq_true rfl)⟩ dL_law_222) (fun rx u H locs hpx hW => ?_)
    replace hW : xt_W D A ss.heap (xX ad cI cL S K n wc dn w lw sy sb sh rw rk dr ++ xM am cI cL S K n iz dz tp bt wm ro wa ch al fr) H locs := hW
    subst hpx
    refine lv_aload_n C.1 C.2.1 dL_law_225 rfl (lv_at hl 3 rfl) ?_
    refine lv_aload_n C.1 C.2.1 dL_law_226 rfl (lv_at hl 1 rfl) ?_
    refine lv_iload_n C.1 C.2.1 dL_law_227 rfl (lv_at hl 0 rfl) ?_
    refine xt_iconst C 1 dL_law_228 (by decide +kernel) ?_
    refine xt_iadd C dL_law_229 ?_
    refine xt_sld C hX hbl hbA hW (by omega) hL dL_law_230 ?_
    refine lv_aload_n C.1 C.2.1 dL_law_231 rfl (lv_at hl 1 rfl) ?_
    refine lv_iload_n C.1 C.2.1 dL_law_232 rfl (lv_at hl 0 rfl) ?_
    refine xt_iconst C 2 dL_law_233 (by decide +kernel) ?_
    refine xt_iadd C dL_law_234 ?_
    refine xt_sld C hX hbl hbA hW (by omega) hL dL_law_235 ?_
    refine lv_aload_n C.1 C.2.1 dL_law_236 rfl (lv_at hl 1 rfl) ?_
    refine lv_iload_n C.1 C.2.1 dL_law_237 rfl (lv_at hl 0 rfl) ?_
    refine xt_iconst C 3 dL_law_238 (by decide +kernel) ?_
    refine xt_iadd C dL_law_239 ?_
    refine xt_sld C hX hbl hbA hW (by omega) hL dL_law_240 ?_
    refine xt_ciR hA hW (xt_runV C (xt_PR hW.1) (xt_DR hW.2.1) cwL_X1_weight (cm_weight_n l D cI cL am S K n iz dz tp bt wm ro wa ch al fr (xs (i + 1)) (xs (i + 2)) (xs (i + 3)) (hM) (hy)) rfl rfl rfl hl.1 (rest := [.int (-1)]) rfl (Nat.le_of_ble_eq_true rfl) ⟨(Nat.le_of_ble_eq_true rfl), (Nat.le_of_ble_eq_true rfl)⟩ ⟨(Nat.le_of_ble_eq_true rfl), (Nat.le_of_ble_eq_true rfl)⟩ dL_law_241) (fun rm u H locs hpm hW => ?_)
    replace hW : xt_W D A ss.heap (xX ad cI cL S K n wc dn w lw sy sb sh rw rk dr ++ xM am cI cL S K n iz dz tp bt wm ro wa ch al fr) H locs := hW
    subst hpm
    refine lv_icmp_eq C.1 C.2.1 dL_law_244 (tgt := 680) (by decide) (fun _ => ?_) (fun h => absurd rfl h)
    exact ih S K n wc dn w lw sy sb sh rw rk dr iz dz tp bt wm ro wa ch al fr ls H locs (hR) hl hW
set_option maxHeartbeats 4000000 in
set_option maxRecDepth 100000 in
theorem lw_c3 {pg : Program} {l : Launch} {ev : Env} {ss : State} {mi : MethodId} {below : List Frame} {meth : Method} {cd : Code} {D : va_G} {cI cL : ClassId} {A : Nat → Prop} {Q : State → Prop} {b L : Nat} {xs : Nat → Int32} {ad am : Nat → Nat} (KK : lw_K pg ss mi cd D cI cL A b L xs) {i : Nat} (hi : i + 5 ≤ L) (ih : lw_I pg l ev ss mi b below meth cd D cI cL ad am A Q i) {S K n wc dn : Nat} {w lw sy sb sh rw rk dr : Nat → Nat} {iz dz tp bt : Nat} {wm ro wa ch al fr : Nat → Nat} {ls : Array Slot} {H : Heap} {locs : List Loc} (hR : rl_R S K n wc dn w lw sy sb sh rw rk dr iz dz wm ro ch) (hl : lv_has ls 4 [(3, .int (nI i)), (0, .ref b), (1, .ref (ad 0)), (2, .ref (am 0))]) (hW : xt_W D A ss.heap (xX ad cI cL S K n wc dn w lw sy sb sh rw rk dr ++ xM am cI cL S K n iz dz tp bt wm ro wa ch al fr) H locs) : W pg l ev room_1 ss mi #[Value.ref b] below meth cd H locs 16 965 Q (F0 mi 249 ls []) := by
  obtain ⟨C, hX, hbl, hbA, hA, hL⟩ := KK
  have hR2 := hR
  obtain ⟨hV, hM, g1, g2, g3, g4⟩ := hR2
  have hV2 := hV
  obtain ⟨hS0, hS3, hK0, hK4, hn6, hw, hlw, hsK, hok⟩ := hV2
  have he := rl_e hsK g1 g2
  by_cases hy : (∃ j, j < K ∧ xs (i + 1) = nI j) ∧ n < 6
  · obtain ⟨⟨k, hk, e1⟩, hn⟩ := hy
    refine lv_aload_n C.1 C.2.1 dL_law_249 rfl (lv_at hl 2 rfl) ?_
    refine lv_aload_n C.1 C.2.1 dL_law_250 rfl (lv_at hl 1 rfl) ?_
    refine lv_iload_n C.1 C.2.1 dL_law_251 rfl (lv_at hl 0 rfl) ?_
    refine xt_iconst C 1 dL_law_252 (by decide +kernel) ?_
    refine xt_iadd C dL_law_253 ?_
    refine xt_sld C hX hbl hbA hW (by omega) hL dL_law_254 ?_
    rw [e1]
    refine xt_ciL hA hW (xt_runV C (xt_PL hW.1) (xt_DL hW.2.1) cwL_X0_see (cx_see_y l D cI cL ad S K n wc dn w lw sy sb sh rw rk dr k (hV) (hk) (hn)) rfl rfl rfl hl.1 (rest := []) rfl (Nat.le_of_ble_eq_true rfl) ⟨(Nat.le_of_ble_eq_true rfl), (Nat.le_of_ble_eq_true rfl)⟩ ⟨(Nat.le_of_ble_eq_true rfl), (Nat.le_of_ble_eq_true rfl)⟩ dL_law_255) (fun rx u H locs hpx hW => ?_)
    obtain ⟨sb_x, sh_x, wc_x, rw_x, rk_x⟩ := u
    replace hW : xt_W D A ss.heap (xX ad cI cL S K (n + 1) wc_x dn w lw (va_up sy n k) sb_x sh_x rw_x rk_x dr ++ xM am cI cL S K n iz dz tp bt wm ro wa ch al fr) H locs := hW
    replace hpx : rx = nI (n + 1) ∧ xq_ok S (n + 1) w (va_up sy n k) sb_x sh_x wc_x rw_x rk_x := hpx
    obtain ⟨rfl, hpx⟩ := hpx
    refine lv_aload_n C.1 C.2.1 dL_law_258 rfl (lv_at hl 3 rfl) ?_
    refine lv_aload_n C.1 C.2.1 dL_law_259 rfl (lv_at hl 1 rfl) ?_
    refine lv_iload_n C.1 C.2.1 dL_law_260 rfl (lv_at hl 0 rfl) ?_
    refine xt_iconst C 1 dL_law_261 (by decide +kernel) ?_
    refine xt_iadd C dL_law_262 ?_
    refine xt_sld C hX hbl hbA hW (by omega) hL dL_law_263 ?_
    rw [e1]
    refine xt_ciR hA hW (xt_runV C (xt_PR hW.1) (xt_DR hW.2.1) cwL_X1_see (cm_see_y l D cI cL am S K n iz dz tp bt wm ro wa ch al fr k (hM) (hk) (hn)) rfl rfl rfl hl.1 (rest := [.int (nI (n + 1))]) rfl (Nat.le_of_ble_eq_true rfl) ⟨(Nat.le_of_ble_eq_true rfl), (Nat.le_of_ble_eq_true rfl)⟩ ⟨(Nat.le_of_ble_eq_true rfl), (Nat.le_of_ble_eq_true rfl)⟩ dL_law_264) (fun rm u H locs hpm hW => ?_)
    replace hW : xt_W D A ss.heap (xX ad cI cL S K (n + 1) wc_x dn w lw (va_up sy n k) sb_x sh_x rw_x rk_x dr ++ xM am cI cL S K (n + 1) iz dz tp bt wm (va_up ro n k) wa ch al fr) H locs := hW
    subst hpm
    refine lv_icmp_eq C.1 C.2.1 dL_law_267 (tgt := 680) (by decide) (fun _ => ?_) (fun h => absurd rfl h)
    exact ih S K (n + 1) wc_x dn w lw (va_up sy n k) sb_x sh_x rw_x rk_x dr iz dz tp bt wm (va_up ro n k) wa ch al fr ls H locs (rl_see hR hk hn hpx) hl hW
  · refine lv_aload_n C.1 C.2.1 dL_law_249 rfl (lv_at hl 2 rfl) ?_
    refine lv_aload_n C.1 C.2.1 dL_law_250 rfl (lv_at hl 1 rfl) ?_
    refine lv_iload_n C.1 C.2.1 dL_law_251 rfl (lv_at hl 0 rfl) ?_
    refine xt_iconst C 1 dL_law_252 (by decide +kernel) ?_
    refine xt_iadd C dL_law_253 ?_
    refine xt_sld C hX hbl hbA hW (by omega) hL dL_law_254 ?_
    refine xt_ciL hA hW (xt_runV C (xt_PL hW.1) (xt_DL hW.2.1) cwL_X0_see (cx_see_n l D cI cL ad S K n wc dn w lw sy sb sh rw rk dr (xs (i + 1)) (hV) (hy)) rfl rfl rfl hl.1 (rest := []) rfl (Nat.le_of_ble_eq_true rfl) ⟨(Nat.le_of_ble_eq_true rfl), (Nat.le_of_ble_eq_true rfl)⟩ ⟨(Nat.le_of_ble_eq_true rfl), (Nat.le_of_ble_eq_true rfl)⟩ dL_law_255) (fun rx u H locs hpx hW => ?_)
    replace hW : xt_W D A ss.heap (xX ad cI cL S K n wc dn w lw sy sb sh rw rk dr ++ xM am cI cL S K n iz dz tp bt wm ro wa ch al fr) H locs := hW
    subst hpx
    refine lv_aload_n C.1 C.2.1 dL_law_258 rfl (lv_at hl 3 rfl) ?_
    refine lv_aload_n C.1 C.2.1 dL_law_259 rfl (lv_at hl 1 rfl) ?_
    refine lv_iload_n C.1 C.2.1 dL_law_260 rfl (lv_at hl 0 rfl) ?_
    refine xt_iconst C 1 dL_law_261 (by decide +kernel) ?_
    refine xt_iadd C dL_law_262 ?_
    refine xt_sld C hX hbl hbA hW (by omega) hL dL_law_263 ?_
    refine xt_ciR hA hW (xt_runV C (xt_PR hW.1) (xt_DR hW.2.1) cwL_X1_see (cm_see_n l D cI cL am S K n iz dz tp bt wm ro wa ch al fr (xs (i + 1)) (hM) (hy)) rfl rfl rfl hl.1 (rest := [.int (-1)]) rfl (Nat.le_of_ble_eq_true rfl) ⟨(Nat.le_of_ble_eq_true rfl), (Nat.le_of_ble_eq_true rfl)⟩ ⟨(Nat.le_of_ble_eq_true rfl), (Nat.le_of_ble_eq_true rfl)⟩ dL_law_264) (fun rm u H locs hpm hW => ?_)
    replace hW : xt_W D A ss.heap (xX ad cI cL S K n wc dn w lw sy sb sh rw rk dr ++ xM am cI cL S K n iz dz tp bt wm ro wa ch al fr) H locs := hW
    subst hpm
    refine lv_icmp_eq C.1 C.2.1 dL_law_267 (tgt := 680) (by decide) (fun _ => ?_) (fun h => absurd rfl h)
    exact ih S K n wc dn w lw sy sb sh rw rk dr iz dz tp bt wm ro wa ch al fr ls H locs (hR) hl hW
set_option maxHeartbeats 4000000 in
set_option maxRecDepth 100000 in
theorem lw_c4 {pg : Program} {l : Launch} {ev : Env} {ss : State} {mi : MethodId} {below : List Frame} {meth : Method} {cd : Code} {D : va_G} {cI cL : ClassId} {A : Nat → Prop} {Q : State → Prop} {b L : Nat} {xs : Nat → Int32} {ad am : Nat → Nat} (KK : lw_K pg ss mi cd D cI cL A b L xs) {i : Nat} (hi : i + 5 ≤ L) (ih : lw_I pg l ev ss mi b below meth cd D cI cL ad am A Q i) {S K n wc dn : Nat} {w lw sy sb sh rw rk dr : Nat → Nat} {iz dz tp bt : Nat} {wm ro wa ch al fr : Nat → Nat} {ls : Array Slot} {H : Heap} {locs : List Loc} (hR : rl_R S K n wc dn w lw sy sb sh rw rk dr iz dz wm ro ch) (hl : lv_has ls 4 [(3, .int (nI i)), (0, .ref b), (1, .ref (ad 0)), (2, .ref (am 0))]) (hW : xt_W D A ss.heap (xX ad cI cL S K n wc dn w lw sy sb sh rw rk dr ++ xM am cI cL S K n iz dz tp bt wm ro wa ch al fr) H locs) : W pg l ev room_1 ss mi #[Value.ref b] below meth cd H locs 16 965 Q (F0 mi 272 ls []) := by
  obtain ⟨C, hX, hbl, hbA, hA, hL⟩ := KK
  have hR2 := hR
  obtain ⟨hV, hM, g1, g2, g3, g4⟩ := hR2
  have hV2 := hV
  obtain ⟨hS0, hS3, hK0, hK4, hn6, hw, hlw, hsK, hok⟩ := hV2
  have he := rl_e hsK g1 g2
  by_cases hy : ∃ j, j ≤ n ∧ xs (i + 1) = nI j
  · obtain ⟨j, hj, e1⟩ := hy
    refine lv_aload_n C.1 C.2.1 dL_law_272 rfl (lv_at hl 2 rfl) ?_
    refine lv_aload_n C.1 C.2.1 dL_law_273 rfl (lv_at hl 1 rfl) ?_
    refine lv_iload_n C.1 C.2.1 dL_law_274 rfl (lv_at hl 0 rfl) ?_
    refine xt_iconst C 1 dL_law_275 (by decide +kernel) ?_
    refine xt_iadd C dL_law_276 ?_
    refine xt_sld C hX hbl hbA hW (by omega) hL dL_law_277 ?_
    rw [e1]
    refine xt_ciL hA hW (xt_runV C (xt_PL hW.1) (xt_DL hW.2.1) cwL_X0_forget (cx_forget_y l D cI cL ad S K n wc dn w lw sy sb sh rw rk dr j (hV) (hj)) rfl rfl rfl hl.1 (rest := []) rfl (Nat.le_of_ble_eq_true rfl) ⟨(Nat.le_of_ble_eq_true rfl), (Nat.le_of_ble_eq_true rfl)⟩ ⟨(Nat.le_of_ble_eq_true rfl), (Nat.le_of_ble_eq_true rfl)⟩ dL_law_278) (fun rx u H locs hpx hW => ?_)
    obtain ⟨sb_x, sh_x, wc_x, rw_x, rk_x⟩ := u
    replace hW : xt_W D A ss.heap (xX ad cI cL S K j wc_x dn w lw sy sb_x sh_x rw_x rk_x dr ++ xM am cI cL S K n iz dz tp bt wm ro wa ch al fr) H locs := hW
    replace hpx : rx = nI (n - j) ∧ xq_ok S j w sy sb_x sh_x wc_x rw_x rk_x := hpx
    obtain ⟨rfl, hpx⟩ := hpx
    refine lv_aload_n C.1 C.2.1 dL_law_281 rfl (lv_at hl 3 rfl) ?_
    refine lv_aload_n C.1 C.2.1 dL_law_282 rfl (lv_at hl 1 rfl) ?_
    refine lv_iload_n C.1 C.2.1 dL_law_283 rfl (lv_at hl 0 rfl) ?_
    refine xt_iconst C 1 dL_law_284 (by decide +kernel) ?_
    refine xt_iadd C dL_law_285 ?_
    refine xt_sld C hX hbl hbA hW (by omega) hL dL_law_286 ?_
    rw [e1]
    refine xt_ciR hA hW (xt_runV C (xt_PR hW.1) (xt_DR hW.2.1) cwL_X1_forget (cm_forget_y l D cI cL am S K n iz dz tp bt wm ro wa ch al fr j (hM) (hj)) rfl rfl rfl hl.1 (rest := [.int (nI (n - j))]) rfl (Nat.le_of_ble_eq_true rfl) ⟨(Nat.le_of_ble_eq_true rfl), (Nat.le_of_ble_eq_true rfl)⟩ ⟨(Nat.le_of_ble_eq_true rfl), (Nat.le_of_ble_eq_true rfl)⟩ dL_law_287) (fun rm u H locs hpm hW => ?_)
    replace hW : xt_W D A ss.heap (xX ad cI cL S K j wc_x dn w lw sy sb_x sh_x rw_x rk_x dr ++ xM am cI cL S K j iz dz tp bt wm ro wa ch al fr) H locs := hW
    subst hpm
    refine lv_icmp_eq C.1 C.2.1 dL_law_290 (tgt := 680) (by decide) (fun _ => ?_) (fun h => absurd rfl h)
    exact ih S K j wc_x dn w lw sy sb_x sh_x rw_x rk_x dr iz dz tp bt wm ro wa ch al fr ls H locs (rl_forget hR hj hpx) hl hW
  · refine lv_aload_n C.1 C.2.1 dL_law_272 rfl (lv_at hl 2 rfl) ?_
    refine lv_aload_n C.1 C.2.1 dL_law_273 rfl (lv_at hl 1 rfl) ?_
    refine lv_iload_n C.1 C.2.1 dL_law_274 rfl (lv_at hl 0 rfl) ?_
    refine xt_iconst C 1 dL_law_275 (by decide +kernel) ?_
    refine xt_iadd C dL_law_276 ?_
    refine xt_sld C hX hbl hbA hW (by omega) hL dL_law_277 ?_
    refine xt_ciL hA hW (xt_runV C (xt_PL hW.1) (xt_DL hW.2.1) cwL_X0_forget (cx_forget_n l D cI cL ad S K n wc dn w lw sy sb sh rw rk dr (xs (i + 1)) (hV) (hy)) rfl rfl rfl hl.1 (rest := []) rfl (Nat.le_of_ble_eq_true rfl) ⟨(Nat.le_of_ble_eq_true rfl), (Nat.le_of_ble_eq_true rfl)⟩ ⟨(Nat.le_of_ble_eq_true rfl), (Nat.le_of_ble_eq_true rfl)⟩ dL_law_278) (fun rx u H locs hpx hW => ?_)
    replace hW : xt_W D A ss.heap (xX ad cI cL S K n wc dn w lw sy sb sh rw rk dr ++ xM am cI cL S K n iz dz tp bt wm ro wa ch al fr) H locs := hW
    subst hpx
    refine lv_aload_n C.1 C.2.1 dL_law_281 rfl (lv_at hl 3 rfl) ?_
    refine lv_aload_n C.1 C.2.1 dL_law_282 rfl (lv_at hl 1 rfl) ?_
    refine lv_iload_n C.1 C.2.1 dL_law_283 rfl (lv_at hl 0 rfl) ?_
    refine xt_iconst C 1 dL_law_284 (by decide +kernel) ?_
    refine xt_iadd C dL_law_285 ?_
    refine xt_sld C hX hbl hbA hW (by omega) hL dL_law_286 ?_
    refine xt_ciR hA hW (xt_runV C (xt_PR hW.1) (xt_DR hW.2.1) cwL_X1_forget (cm_forget_n l D cI cL am S K n iz dz tp bt wm ro wa ch al fr (xs (i + 1)) (hM) (hy)) rfl rfl rfl hl.1 (rest := [.int (-1)]) rfl (Nat.le_of_ble_eq_true rfl) ⟨(Nat.le_of_ble_eq_true rfl), (Nat.le_of_ble_eq_true rfl)⟩ ⟨(Nat.le_of_ble_eq_true rfl), (Nat.le_of_ble_eq_true rfl)⟩ dL_law_287) (fun rm u H locs hpm hW => ?_)
    replace hW : xt_W D A ss.heap (xX ad cI cL S K n wc dn w lw sy sb sh rw rk dr ++ xM am cI cL S K n iz dz tp bt wm ro wa ch al fr) H locs := hW
    subst hpm
    refine lv_icmp_eq C.1 C.2.1 dL_law_290 (tgt := 680) (by decide) (fun _ => ?_) (fun h => absurd rfl h)
    exact ih S K n wc dn w lw sy sb sh rw rk dr iz dz tp bt wm ro wa ch al fr ls H locs (hR) hl hW
set_option maxHeartbeats 4000000 in
set_option maxRecDepth 100000 in
theorem lw_c5 {pg : Program} {l : Launch} {ev : Env} {ss : State} {mi : MethodId} {below : List Frame} {meth : Method} {cd : Code} {D : va_G} {cI cL : ClassId} {A : Nat → Prop} {Q : State → Prop} {b L : Nat} {xs : Nat → Int32} {ad am : Nat → Nat} (KK : lw_K pg ss mi cd D cI cL A b L xs) {i : Nat} (hi : i + 5 ≤ L) (ih : lw_I pg l ev ss mi b below meth cd D cI cL ad am A Q i) {S K n wc dn : Nat} {w lw sy sb sh rw rk dr : Nat → Nat} {iz dz tp bt : Nat} {wm ro wa ch al fr : Nat → Nat} {ls : Array Slot} {H : Heap} {locs : List Loc} (hR : rl_R S K n wc dn w lw sy sb sh rw rk dr iz dz wm ro ch) (hl : lv_has ls 4 [(3, .int (nI i)), (0, .ref b), (1, .ref (ad 0)), (2, .ref (am 0))]) (hW : xt_W D A ss.heap (xX ad cI cL S K n wc dn w lw sy sb sh rw rk dr ++ xM am cI cL S K n iz dz tp bt wm ro wa ch al fr) H locs) : W pg l ev room_1 ss mi #[Value.ref b] below meth cd H locs 16 965 Q (F0 mi 295 ls []) := by
  obtain ⟨C, hX, hbl, hbA, hA, hL⟩ := KK
  have hR2 := hR
  obtain ⟨hV, hM, g1, g2, g3, g4⟩ := hR2
  have hV2 := hV
  obtain ⟨hS0, hS3, hK0, hK4, hn6, hw, hlw, hsK, hok⟩ := hV2
  have he := rl_e hsK g1 g2
  refine lv_aload_n C.1 C.2.1 dL_law_295 rfl (lv_at hl 2 rfl) ?_
  refine xt_ciL hA hW (xt_runV C (xt_PL hW.1) (xt_DL hW.2.1) cwL_X0_seen (cx_seen l D cI cL ad S K n wc dn w lw sy sb sh rw rk dr) rfl rfl rfl hl.1 (rest := []) rfl (Nat.le_of_ble_eq_true rfl) ⟨(Nat.le_of_ble_eq_true rfl), (Nat.le_of_ble_eq_true rfl)⟩ ⟨(Nat.le_of_ble_eq_true rfl), (Nat.le_of_ble_eq_true rfl)⟩ dL_law_296) (fun rx u H locs hpx hW => ?_)
  replace hW : xt_W D A ss.heap (xX ad cI cL S K n wc dn w lw sy sb sh rw rk dr ++ xM am cI cL S K n iz dz tp bt wm ro wa ch al fr) H locs := hW
  subst hpx
  refine lv_aload_n C.1 C.2.1 dL_law_299 rfl (lv_at hl 3 rfl) ?_
  refine xt_ciR hA hW (xt_runV C (xt_PR hW.1) (xt_DR hW.2.1) cwL_X1_seen (cm_seen l D cI cL am S K n iz dz tp bt wm ro wa ch al fr) rfl rfl rfl hl.1 (rest := [.int (nI n)]) rfl (Nat.le_of_ble_eq_true rfl) ⟨(Nat.le_of_ble_eq_true rfl), (Nat.le_of_ble_eq_true rfl)⟩ ⟨(Nat.le_of_ble_eq_true rfl), (Nat.le_of_ble_eq_true rfl)⟩ dL_law_300) (fun rm u H locs hpm hW => ?_)
  replace hW : xt_W D A ss.heap (xX ad cI cL S K n wc dn w lw sy sb sh rw rk dr ++ xM am cI cL S K n iz dz tp bt wm ro wa ch al fr) H locs := hW
  subst hpm
  refine lv_icmp_eq C.1 C.2.1 dL_law_303 (tgt := 680) (by decide) (fun _ => ?_) (fun h => absurd rfl h)
  exact ih S K n wc dn w lw sy sb sh rw rk dr iz dz tp bt wm ro wa ch al fr ls H locs (hR) hl hW
set_option maxHeartbeats 4000000 in
set_option maxRecDepth 100000 in
theorem lw_c6 {pg : Program} {l : Launch} {ev : Env} {ss : State} {mi : MethodId} {below : List Frame} {meth : Method} {cd : Code} {D : va_G} {cI cL : ClassId} {A : Nat → Prop} {Q : State → Prop} {b L : Nat} {xs : Nat → Int32} {ad am : Nat → Nat} (KK : lw_K pg ss mi cd D cI cL A b L xs) {i : Nat} (hi : i + 5 ≤ L) (ih : lw_I pg l ev ss mi b below meth cd D cI cL ad am A Q i) {S K n wc dn : Nat} {w lw sy sb sh rw rk dr : Nat → Nat} {iz dz tp bt : Nat} {wm ro wa ch al fr : Nat → Nat} {ls : Array Slot} {H : Heap} {locs : List Loc} (hR : rl_R S K n wc dn w lw sy sb sh rw rk dr iz dz wm ro ch) (hl : lv_has ls 4 [(3, .int (nI i)), (0, .ref b), (1, .ref (ad 0)), (2, .ref (am 0))]) (hW : xt_W D A ss.heap (xX ad cI cL S K n wc dn w lw sy sb sh rw rk dr ++ xM am cI cL S K n iz dz tp bt wm ro wa ch al fr) H locs) : W pg l ev room_1 ss mi #[Value.ref b] below meth cd H locs 16 965 Q (F0 mi 308 ls []) := by
  obtain ⟨C, hX, hbl, hbA, hA, hL⟩ := KK
  have hR2 := hR
  obtain ⟨hV, hM, g1, g2, g3, g4⟩ := hR2
  have hV2 := hV
  obtain ⟨hS0, hS3, hK0, hK4, hn6, hw, hlw, hsK, hok⟩ := hV2
  have he := rl_e hsK g1 g2
  by_cases hy : ∃ j, j < n ∧ xs (i + 1) = nI j
  · obtain ⟨j, hj, e1⟩ := hy
    refine lv_aload_n C.1 C.2.1 dL_law_308 rfl (lv_at hl 2 rfl) ?_
    refine lv_aload_n C.1 C.2.1 dL_law_309 rfl (lv_at hl 1 rfl) ?_
    refine lv_iload_n C.1 C.2.1 dL_law_310 rfl (lv_at hl 0 rfl) ?_
    refine xt_iconst C 1 dL_law_311 (by decide +kernel) ?_
    refine xt_iadd C dL_law_312 ?_
    refine xt_sld C hX hbl hbA hW (by omega) hL dL_law_313 ?_
    rw [e1]
    refine xt_ciL hA hW (xt_runV C (xt_PL hW.1) (xt_DL hW.2.1) cwL_X0_symbol (cx_symbol_y l D cI cL ad S K n wc dn w lw sy sb sh rw rk dr j (hV) (hj)) rfl rfl rfl hl.1 (rest := []) rfl (Nat.le_of_ble_eq_true rfl) ⟨(Nat.le_of_ble_eq_true rfl), (Nat.le_of_ble_eq_true rfl)⟩ ⟨(Nat.le_of_ble_eq_true rfl), (Nat.le_of_ble_eq_true rfl)⟩ dL_law_314) (fun rx u H locs hpx hW => ?_)
    replace hW : xt_W D A ss.heap (xX ad cI cL S K n wc dn w lw sy sb sh rw rk dr ++ xM am cI cL S K n iz dz tp bt wm ro wa ch al fr) H locs := hW
    subst hpx
    refine lv_aload_n C.1 C.2.1 dL_law_317 rfl (lv_at hl 3 rfl) ?_
    refine lv_aload_n C.1 C.2.1 dL_law_318 rfl (lv_at hl 1 rfl) ?_
    refine lv_iload_n C.1 C.2.1 dL_law_319 rfl (lv_at hl 0 rfl) ?_
    refine xt_iconst C 1 dL_law_320 (by decide +kernel) ?_
    refine xt_iadd C dL_law_321 ?_
    refine xt_sld C hX hbl hbA hW (by omega) hL dL_law_322 ?_
    rw [e1]
    refine xt_ciR hA hW (xt_runV C (xt_PR hW.1) (xt_DR hW.2.1) cwL_X1_symbol (cm_symbol_y l D cI cL am S K n iz dz tp bt wm ro wa ch al fr j (hM) (hj)) rfl rfl rfl hl.1 (rest := [.int (nI (sy j))]) rfl (Nat.le_of_ble_eq_true rfl) ⟨(Nat.le_of_ble_eq_true rfl), (Nat.le_of_ble_eq_true rfl)⟩ ⟨(Nat.le_of_ble_eq_true rfl), (Nat.le_of_ble_eq_true rfl)⟩ dL_law_323) (fun rm u H locs hpm hW => ?_)
    replace hW : xt_W D A ss.heap (xX ad cI cL S K n wc dn w lw sy sb sh rw rk dr ++ xM am cI cL S K n iz dz tp bt wm ro wa ch al fr) H locs := hW
    subst hpm
    rw [g2 j hj]
    refine lv_icmp_eq C.1 C.2.1 dL_law_326 (tgt := 680) (by decide) (fun _ => ?_) (fun h => absurd rfl h)
    exact ih S K n wc dn w lw sy sb sh rw rk dr iz dz tp bt wm ro wa ch al fr ls H locs (hR) hl hW
  · refine lv_aload_n C.1 C.2.1 dL_law_308 rfl (lv_at hl 2 rfl) ?_
    refine lv_aload_n C.1 C.2.1 dL_law_309 rfl (lv_at hl 1 rfl) ?_
    refine lv_iload_n C.1 C.2.1 dL_law_310 rfl (lv_at hl 0 rfl) ?_
    refine xt_iconst C 1 dL_law_311 (by decide +kernel) ?_
    refine xt_iadd C dL_law_312 ?_
    refine xt_sld C hX hbl hbA hW (by omega) hL dL_law_313 ?_
    refine xt_ciL hA hW (xt_runV C (xt_PL hW.1) (xt_DL hW.2.1) cwL_X0_symbol (cx_symbol_n l D cI cL ad S K n wc dn w lw sy sb sh rw rk dr (xs (i + 1)) (hV) (hy)) rfl rfl rfl hl.1 (rest := []) rfl (Nat.le_of_ble_eq_true rfl) ⟨(Nat.le_of_ble_eq_true rfl), (Nat.le_of_ble_eq_true rfl)⟩ ⟨(Nat.le_of_ble_eq_true rfl), (Nat.le_of_ble_eq_true rfl)⟩ dL_law_314) (fun rx u H locs hpx hW => ?_)
    replace hW : xt_W D A ss.heap (xX ad cI cL S K n wc dn w lw sy sb sh rw rk dr ++ xM am cI cL S K n iz dz tp bt wm ro wa ch al fr) H locs := hW
    subst hpx
    refine lv_aload_n C.1 C.2.1 dL_law_317 rfl (lv_at hl 3 rfl) ?_
    refine lv_aload_n C.1 C.2.1 dL_law_318 rfl (lv_at hl 1 rfl) ?_
    refine lv_iload_n C.1 C.2.1 dL_law_319 rfl (lv_at hl 0 rfl) ?_
    refine xt_iconst C 1 dL_law_320 (by decide +kernel) ?_
    refine xt_iadd C dL_law_321 ?_
    refine xt_sld C hX hbl hbA hW (by omega) hL dL_law_322 ?_
    refine xt_ciR hA hW (xt_runV C (xt_PR hW.1) (xt_DR hW.2.1) cwL_X1_symbol (cm_symbol_n l D cI cL am S K n iz dz tp bt wm ro wa ch al fr (xs (i + 1)) (hM) (hy)) rfl rfl rfl hl.1 (rest := [.int (-1)]) rfl (Nat.le_of_ble_eq_true rfl) ⟨(Nat.le_of_ble_eq_true rfl), (Nat.le_of_ble_eq_true rfl)⟩ ⟨(Nat.le_of_ble_eq_true rfl), (Nat.le_of_ble_eq_true rfl)⟩ dL_law_323) (fun rm u H locs hpm hW => ?_)
    replace hW : xt_W D A ss.heap (xX ad cI cL S K n wc dn w lw sy sb sh rw rk dr ++ xM am cI cL S K n iz dz tp bt wm ro wa ch al fr) H locs := hW
    subst hpm
    refine lv_icmp_eq C.1 C.2.1 dL_law_326 (tgt := 680) (by decide) (fun _ => ?_) (fun h => absurd rfl h)
    exact ih S K n wc dn w lw sy sb sh rw rk dr iz dz tp bt wm ro wa ch al fr ls H locs (hR) hl hW
set_option maxHeartbeats 4000000 in
set_option maxRecDepth 100000 in
theorem lw_c7 {pg : Program} {l : Launch} {ev : Env} {ss : State} {mi : MethodId} {below : List Frame} {meth : Method} {cd : Code} {D : va_G} {cI cL : ClassId} {A : Nat → Prop} {Q : State → Prop} {b L : Nat} {xs : Nat → Int32} {ad am : Nat → Nat} (KK : lw_K pg ss mi cd D cI cL A b L xs) {i : Nat} (hi : i + 5 ≤ L) (ih : lw_I pg l ev ss mi b below meth cd D cI cL ad am A Q i) {S K n wc dn : Nat} {w lw sy sb sh rw rk dr : Nat → Nat} {iz dz tp bt : Nat} {wm ro wa ch al fr : Nat → Nat} {ls : Array Slot} {H : Heap} {locs : List Loc} (hR : rl_R S K n wc dn w lw sy sb sh rw rk dr iz dz wm ro ch) (hl : lv_has ls 4 [(3, .int (nI i)), (0, .ref b), (1, .ref (ad 0)), (2, .ref (am 0))]) (hW : xt_W D A ss.heap (xX ad cI cL S K n wc dn w lw sy sb sh rw rk dr ++ xM am cI cL S K n iz dz tp bt wm ro wa ch al fr) H locs) : W pg l ev room_1 ss mi #[Value.ref b] below meth cd H locs 16 965 Q (F0 mi 331 ls []) := by
  obtain ⟨C, hX, hbl, hbA, hA, hL⟩ := KK
  have hR2 := hR
  obtain ⟨hV, hM, g1, g2, g3, g4⟩ := hR2
  have hV2 := hV
  obtain ⟨hS0, hS3, hK0, hK4, hn6, hw, hlw, hsK, hok⟩ := hV2
  have he := rl_e hsK g1 g2
  refine lv_aload_n C.1 C.2.1 dL_law_331 rfl (lv_at hl 2 rfl) ?_
  refine xt_clL hA hW (xt_runV C (xt_PL hW.1) (xt_DL hW.2.1) cwL_X0_total (cx_total l D cI cL ad S K n wc dn w lw sy sb sh rw rk dr (hV)) rfl rfl rfl hl.1 (rest := []) rfl (Nat.le_of_ble_eq_true rfl) ⟨(Nat.le_of_ble_eq_true rfl), (Nat.le_of_ble_eq_true rfl)⟩ ⟨(Nat.le_of_ble_eq_true rfl), (Nat.le_of_ble_eq_true rfl)⟩ dL_law_332) (fun rx u H locs hpx hW => ?_)
  replace hW : xt_W D A ss.heap (xX ad cI cL S K n wc dn w lw sy sb sh rw rk dr ++ xM am cI cL S K n iz dz tp bt wm ro wa ch al fr) H locs := hW
  subst hpx
  refine lv_aload_n C.1 C.2.1 dL_law_335 rfl (lv_at hl 3 rfl) ?_
  refine xt_clR hA hW (xt_runV C (xt_PR hW.1) (xt_DR hW.2.1) cwL_X1_total (cm_total l D cI cL am S K n iz dz tp bt wm ro wa ch al fr (hM)) rfl rfl rfl hl.1 (rest := [.long (lN (ms_sum (fun z1 => ms_wt (xe w sy) S n z1) (S ^ n)))]) rfl (Nat.le_of_ble_eq_true rfl) ⟨(Nat.le_of_ble_eq_true rfl), (Nat.le_of_ble_eq_true rfl)⟩ ⟨(Nat.le_of_ble_eq_true rfl), (Nat.le_of_ble_eq_true rfl)⟩ dL_law_336) (fun rm u H locs hpm hW => ?_)
  obtain ⟨wa_m, rfl⟩ : ∃ z, z = u := ⟨_, rfl⟩
  replace hW : xt_W D A ss.heap (xX ad cI cL S K n wc dn w lw sy sb sh rw rk dr ++ xM am cI cL S K n iz dz tp bt wm ro wa_m ch al fr) H locs := hW
  subst hpm
  rw [rl_tot hS0 he]
  refine W.lcmp C.1 C.2.1 dL_law_339 ?_
  refine lv_if_eq C.1 C.2.1 dL_law_340 (tgt := 680) (by decide) (fun _ => ?_) (fun h => absurd ((lg_cmp_eq _ _).mpr rfl) h)
  exact ih S K n wc dn w lw sy sb sh rw rk dr iz dz tp bt wm ro wa_m ch al fr ls H locs (hR) hl hW
set_option maxHeartbeats 4000000 in
set_option maxRecDepth 100000 in
theorem lw_c8 {pg : Program} {l : Launch} {ev : Env} {ss : State} {mi : MethodId} {below : List Frame} {meth : Method} {cd : Code} {D : va_G} {cI cL : ClassId} {A : Nat → Prop} {Q : State → Prop} {b L : Nat} {xs : Nat → Int32} {ad am : Nat → Nat} (KK : lw_K pg ss mi cd D cI cL A b L xs) {i : Nat} (hi : i + 5 ≤ L) (ih : lw_I pg l ev ss mi b below meth cd D cI cL ad am A Q i) {S K n wc dn : Nat} {w lw sy sb sh rw rk dr : Nat → Nat} {iz dz tp bt : Nat} {wm ro wa ch al fr : Nat → Nat} {ls : Array Slot} {H : Heap} {locs : List Loc} (hR : rl_R S K n wc dn w lw sy sb sh rw rk dr iz dz wm ro ch) (hl : lv_has ls 4 [(3, .int (nI i)), (0, .ref b), (1, .ref (ad 0)), (2, .ref (am 0))]) (hW : xt_W D A ss.heap (xX ad cI cL S K n wc dn w lw sy sb sh rw rk dr ++ xM am cI cL S K n iz dz tp bt wm ro wa ch al fr) H locs) : W pg l ev room_1 ss mi #[Value.ref b] below meth cd H locs 16 965 Q (F0 mi 345 ls []) := by
  obtain ⟨C, hX, hbl, hbA, hA, hL⟩ := KK
  have hR2 := hR
  obtain ⟨hV, hM, g1, g2, g3, g4⟩ := hR2
  have hV2 := hV
  obtain ⟨hS0, hS3, hK0, hK4, hn6, hw, hlw, hsK, hok⟩ := hV2
  have he := rl_e hsK g1 g2
  by_cases hy : (∃ j, j < n ∧ xs (i + 1) = nI j) ∧ ∃ j, j < S ∧ xs (i + 2) = nI j
  · obtain ⟨⟨p, hp, e1⟩, q, hq, e2⟩ := hy
    refine lv_aload_n C.1 C.2.1 dL_law_345 rfl (lv_at hl 2 rfl) ?_
    refine lv_aload_n C.1 C.2.1 dL_law_346 rfl (lv_at hl 1 rfl) ?_
    refine lv_iload_n C.1 C.2.1 dL_law_347 rfl (lv_at hl 0 rfl) ?_
    refine xt_iconst C 1 dL_law_348 (by decide +kernel) ?_
    refine xt_iadd C dL_law_349 ?_
    refine xt_sld C hX hbl hbA hW (by omega) hL dL_law_350 ?_
    refine lv_aload_n C.1 C.2.1 dL_law_351 rfl (lv_at hl 1 rfl) ?_
    refine lv_iload_n C.1 C.2.1 dL_law_352 rfl (lv_at hl 0 rfl) ?_
    refine xt_iconst C 2 dL_law_353 (by decide +kernel) ?_
    refine xt_iadd C dL_law_354 ?_
    refine xt_sld C hX hbl hbA hW (by omega) hL dL_law_355 ?_
    rw [e1, e2]
    refine xt_clL hA hW (xt_runV C (xt_PL hW.1) (xt_DL hW.2.1) cwL_X0_before (cx_before_y l D cI cL ad S K n wc dn w lw sy sb sh rw rk dr p q (hV) (hp) (hq)) rfl rfl rfl hl.1 (rest := []) rfl (Nat.le_of_ble_eq_true rfl) ⟨(Nat.le_of_ble_eq_true rfl), (Nat.le_of_ble_eq_true rfl)⟩ ⟨(Nat.le_of_ble_eq_true rfl), (Nat.le_of_ble_eq_true rfl)⟩ dL_law_356) (fun rx u H locs hpx hW => ?_)
    replace hW : xt_W D A ss.heap (xX ad cI cL S K n wc dn w lw sy sb sh rw rk dr ++ xM am cI cL S K n iz dz tp bt wm ro wa ch al fr) H locs := hW
    subst hpx
    refine lv_aload_n C.1 C.2.1 dL_law_359 rfl (lv_at hl 3 rfl) ?_
    refine lv_aload_n C.1 C.2.1 dL_law_360 rfl (lv_at hl 1 rfl) ?_
    refine lv_iload_n C.1 C.2.1 dL_law_361 rfl (lv_at hl 0 rfl) ?_
    refine xt_iconst C 1 dL_law_362 (by decide +kernel) ?_
    refine xt_iadd C dL_law_363 ?_
    refine xt_sld C hX hbl hbA hW (by omega) hL dL_law_364 ?_
    refine lv_aload_n C.1 C.2.1 dL_law_365 rfl (lv_at hl 1 rfl) ?_
    refine lv_iload_n C.1 C.2.1 dL_law_366 rfl (lv_at hl 0 rfl) ?_
    refine xt_iconst C 2 dL_law_367 (by decide +kernel) ?_
    refine xt_iadd C dL_law_368 ?_
    refine xt_sld C hX hbl hbA hW (by omega) hL dL_law_369 ?_
    rw [e1, e2]
    refine xt_clR hA hW (xt_runV C (xt_PR hW.1) (xt_DR hW.2.1) cwL_X1_before (cm_before_y l D cI cL am S K n iz dz tp bt wm ro wa ch al fr p q (hM) (hp) (hq)) rfl rfl rfl hl.1 (rest := [.long (lN (ms_bf (xe w sy) S p q))]) rfl (Nat.le_of_ble_eq_true rfl) ⟨(Nat.le_of_ble_eq_true rfl), (Nat.le_of_ble_eq_true rfl)⟩ ⟨(Nat.le_of_ble_eq_true rfl), (Nat.le_of_ble_eq_true rfl)⟩ dL_law_370) (fun rm u H locs hpm hW => ?_)
    obtain ⟨wa_m, rfl⟩ : ∃ z, z = u := ⟨_, rfl⟩
    replace hW : xt_W D A ss.heap (xX ad cI cL S K n wc dn w lw sy sb sh rw rk dr ++ xM am cI cL S K n iz dz tp bt wm ro wa_m ch al fr) H locs := hW
    subst hpm
    rw [ms_bf_congr hS0 he hp hq]
    refine W.lcmp C.1 C.2.1 dL_law_373 ?_
    refine lv_if_eq C.1 C.2.1 dL_law_374 (tgt := 680) (by decide) (fun _ => ?_) (fun h => absurd ((lg_cmp_eq _ _).mpr rfl) h)
    exact ih S K n wc dn w lw sy sb sh rw rk dr iz dz tp bt wm ro wa_m ch al fr ls H locs (hR) hl hW
  · refine lv_aload_n C.1 C.2.1 dL_law_345 rfl (lv_at hl 2 rfl) ?_
    refine lv_aload_n C.1 C.2.1 dL_law_346 rfl (lv_at hl 1 rfl) ?_
    refine lv_iload_n C.1 C.2.1 dL_law_347 rfl (lv_at hl 0 rfl) ?_
    refine xt_iconst C 1 dL_law_348 (by decide +kernel) ?_
    refine xt_iadd C dL_law_349 ?_
    refine xt_sld C hX hbl hbA hW (by omega) hL dL_law_350 ?_
    refine lv_aload_n C.1 C.2.1 dL_law_351 rfl (lv_at hl 1 rfl) ?_
    refine lv_iload_n C.1 C.2.1 dL_law_352 rfl (lv_at hl 0 rfl) ?_
    refine xt_iconst C 2 dL_law_353 (by decide +kernel) ?_
    refine xt_iadd C dL_law_354 ?_
    refine xt_sld C hX hbl hbA hW (by omega) hL dL_law_355 ?_
    refine xt_clL hA hW (xt_runV C (xt_PL hW.1) (xt_DL hW.2.1) cwL_X0_before (cx_before_n l D cI cL ad S K n wc dn w lw sy sb sh rw rk dr (xs (i + 1)) (xs (i + 2)) (hV) (hy)) rfl rfl rfl hl.1 (rest := []) rfl (Nat.le_of_ble_eq_true rfl) ⟨(Nat.le_of_ble_eq_true rfl), (Nat.le_of_ble_eq_true rfl)⟩ ⟨(Nat.le_of_ble_eq_true rfl), (Nat.le_of_ble_eq_true rfl)⟩ dL_law_356) (fun rx u H locs hpx hW => ?_)
    replace hW : xt_W D A ss.heap (xX ad cI cL S K n wc dn w lw sy sb sh rw rk dr ++ xM am cI cL S K n iz dz tp bt wm ro wa ch al fr) H locs := hW
    subst hpx
    refine lv_aload_n C.1 C.2.1 dL_law_359 rfl (lv_at hl 3 rfl) ?_
    refine lv_aload_n C.1 C.2.1 dL_law_360 rfl (lv_at hl 1 rfl) ?_
    refine lv_iload_n C.1 C.2.1 dL_law_361 rfl (lv_at hl 0 rfl) ?_
    refine xt_iconst C 1 dL_law_362 (by decide +kernel) ?_
    refine xt_iadd C dL_law_363 ?_
    refine xt_sld C hX hbl hbA hW (by omega) hL dL_law_364 ?_
    refine lv_aload_n C.1 C.2.1 dL_law_365 rfl (lv_at hl 1 rfl) ?_
    refine lv_iload_n C.1 C.2.1 dL_law_366 rfl (lv_at hl 0 rfl) ?_
    refine xt_iconst C 2 dL_law_367 (by decide +kernel) ?_
    refine xt_iadd C dL_law_368 ?_
    refine xt_sld C hX hbl hbA hW (by omega) hL dL_law_369 ?_
    refine xt_clR hA hW (xt_runV C (xt_PR hW.1) (xt_DR hW.2.1) cwL_X1_before (cm_before_n l D cI cL am S K n iz dz tp bt wm ro wa ch al fr (xs (i + 1)) (xs (i + 2)) (hM) (hy)) rfl rfl rfl hl.1 (rest := [.long (lN 0)]) rfl (Nat.le_of_ble_eq_true rfl) ⟨(Nat.le_of_ble_eq_true rfl), (Nat.le_of_ble_eq_true rfl)⟩ ⟨(Nat.le_of_ble_eq_true rfl), (Nat.le_of_ble_eq_true rfl)⟩ dL_law_370) (fun rm u H locs hpm hW => ?_)
    replace hW : xt_W D A ss.heap (xX ad cI cL S K n wc dn w lw sy sb sh rw rk dr ++ xM am cI cL S K n iz dz tp bt wm ro wa ch al fr) H locs := hW
    subst hpm
    refine W.lcmp C.1 C.2.1 dL_law_373 ?_
    refine lv_if_eq C.1 C.2.1 dL_law_374 (tgt := 680) (by decide) (fun _ => ?_) (fun h => absurd ((lg_cmp_eq _ _).mpr rfl) h)
    exact ih S K n wc dn w lw sy sb sh rw rk dr iz dz tp bt wm ro wa ch al fr ls H locs (hR) hl hW
