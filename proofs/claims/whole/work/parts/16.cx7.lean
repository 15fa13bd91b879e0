/-- a state of the class that holds together -/
def xq_V (S K n wc : Nat) (w lw sy sb sh rw rk : Nat → Nat) : Prop := 0 < S ∧ S ≤ 3 ∧ 0 < K ∧ K ≤ 4 ∧ n ≤ 6 ∧ (∀ i, i < 36 → w i ≤ 9) ∧ (∀ i, i < 36 → lw i ≤ 9) ∧ (∀ p, p < n → sy p < K) ∧ xq_ok S n w sy sb sh wc rw rk
/-- kind, row and column of a weight -/
def xq_kr (S K a b c : Nat) : Prop := (a = 0 ∧ b = 0 ∧ c < S) ∨ (a = 1 ∧ b < S ∧ c < S) ∨ (a = 2 ∧ b < S ∧ c < K)
theorem xq_sz {a b : Int32} (h1 : ¬ a < nI 1) (h2 : ¬ nI 3 < a) (h3 : ¬ b < nI 1) (h4 : b ≤ nI 4) : ∃ s k, a = nI s ∧ b = nI k ∧ 1 ≤ s ∧ s ≤ 3 ∧ 1 ≤ k ∧ k ≤ 4 := by
  have t1 : (nI 1).toInt = 1 := by decide
  have t3 : (nI 3).toInt = 3 := by decide
  have t4 : (nI 4).toInt = 4 := by decide
  rw [Int32.lt_iff_toInt_lt, t1] at h1 h3
  rw [Int32.lt_iff_toInt_lt, t3] at h2
  rw [Int32.le_iff_toInt_le, t4] at h4
  have ga : ¬ a < 0 := by rw [Int32.lt_iff_toInt_lt, Int32.toInt_zero]; omega
  have gb : ¬ b < 0 := by rw [Int32.lt_iff_toInt_lt, Int32.toInt_zero]; omega
  obtain ⟨s, hs, rfl⟩ := nI_of ga
  obtain ⟨k, hk, rfl⟩ := nI_of gb
  rw [nI_toInt hs] at h1 h2
  rw [nI_toInt hk] at h3 h4
  exact ⟨s, k, rfl, rfl, by omega, by omega, by omega, by omega⟩
theorem xq_le {x : Int32} {m : Nat} (hm : m < 2 ^ 31) (h1 : ¬ x < 0) (h2 : x ≤ nI m) : ∃ v, v ≤ m ∧ x = nI v := by
  obtain ⟨v, hv, rfl⟩ := nI_of h1
  exact ⟨v, (nI_leI hv hm).mp h2, rfl⟩
theorem xq_upb {w : Nat → Nat} {k v m N : Nat} (hw : ∀ i, i < N → w i ≤ m) (hv : v ≤ m) : ∀ i, i < N → va_up w k v i ≤ m := by
  intro i hi
  by_cases e : i = k
  · rw [e, xq_up]; exact hv
  · rw [xq_un e]; exact hw i hi
theorem xq_upl {sy : Nat → Nat} {n k m : Nat} (hs : ∀ p, p < n → sy p < m) (hk : k < m) : ∀ p, p < n + 1 → va_up sy n k p < m := by
  intro p hp
  by_cases e : p = n
  · rw [e, xq_up]; exact hk
  · rw [xq_un e]; exact hs p (by omega)
theorem xq_total {S n wc : Nat} {w sy sb sh rw rk : Nat → Nat} (hok : xq_ok S n w sy sb sh wc rw rk) (hn : n ≠ 0) : ms_sum (fun z1 => sb ((n - 1) * 3 + z1)) S = ms_sum (fun z1 => ms_wt (xe w sy) S n z1) (S ^ n) := by
  rw [ms_total (xe_0 w sy) (by omega)]
  exact ms_sum_congr (fun t ht => hok.1 (n - 1) t (by omega) ht)
theorem xq_total0 {S n : Nat} {w sy : Nat → Nat} (hn : n = 0) : 1 = ms_sum (fun z1 => ms_wt (xe w sy) S n z1) (S ^ n) := by
  subst hn
  rfl
theorem xq_wc {S n wc : Nat} {w sy sb sh rw rk : Nat → Nat} (hok : xq_ok S n w sy sb sh wc rw rk) (hS3 : S ≤ 3) (hn6 : n ≤ 6) : wc < 2 ^ 30 := by
  obtain ⟨-, -, g, hg⟩ := hok
  exact xq_wcb hg (ms_pow_le hS3 hn6)
theorem xq_rkb {S n wc i : Nat} {w sy sb sh rw rk : Nat → Nat} (hok : xq_ok S n w sy sb sh wc rw rk) (hS0 : 0 < S) (hS3 : S ≤ 3) (hn6 : n ≤ 6) (hi : i < min wc 12) : rk i < 4096 := by
  obtain ⟨-, -, g, hg⟩ := hok
  rw [(hg.2.1 i (by omega) (by omega)).2.2.2]
  exact xq_pkb hS0 hS3 hn6
set_option maxHeartbeats 4000000 in
set_option maxRecDepth 100000 in
theorem cx_size_y (l : Launch) (D : va_G) (cI cL : ClassId) (ad : Nat → Nat) (S K n wc dn : Nat) (w lw sy sb sh rw rk dr : Nat → Nat) (a : Nat) (b : Nat) (ha1 : 1 ≤ a) (ha3 : a ≤ 3) (hb1 : 1 ≤ b) (hb4 : b ≤ 4) : xt_M l yX0_size cX0_size 3 (some .boolean) 11 D cI cL [.ref (ad 0), .int (nI a), .int (nI b)] (xX ad cI cL S K n wc dn w lw sy sb sh rw rk dr) (xt_Qi D cI cL (xX ad cI cL S K n wc dn w lw sy sb sh rw rk dr) (fun (r : Int32) (u : (Nat → Nat) × (Nat → Nat) × (Nat → Nat) × (Nat) × (Nat → Nat) × (Nat → Nat)) => r = nI 1 ∧ (∀ j, j < 36 → u.1 j = 1) ∧ xq_ok a 0 u.1 sy u.2.1 u.2.2.1 u.2.2.2.1 u.2.2.2.2.1 u.2.2.2.2.2) (fun u => xX ad cI cL a b 0 u.2.2.2.1 0 u.1 lw sy u.2.1 u.2.2.1 u.2.2.2.2.1 u.2.2.2.2.2 dr)) := by
  refine xt_start (own := RX0) rfl (by decide) (Nat.le_of_ble_eq_true rfl) (fun pg ev ss mi args below meth cd A Q ls C hE hA hl hW => ?_)
  replace hl : lv_has ls 3 [(0, .ref (ad 0)), (1, .int (nI a)), (2, .int (nI b))] := hl
  refine lv_iload_n C.1 C.2.1 dX0_size_0 rfl (lv_at hl 1 rfl) ?_
  refine xt_iconst C 1 dX0_size_1 (by decide +kernel) ?_
  refine xt_icmp_lt C (by omega) (by omega) dX0_size_2 (tgt := 20) (by decide) (fun h2 => ?_) (fun h2 => ?_)
  · exfalso
    omega
  · refine lv_iload_n C.1 C.2.1 dX0_size_5 rfl (lv_at hl 1 rfl) ?_
    refine xt_iconst C 3 dX0_size_6 (by decide +kernel) ?_
    refine xt_icmp_gt C (by omega) (by omega) dX0_size_7 (tgt := 20) (by decide) (fun h7 => ?_) (fun h7 => ?_)
    · exfalso
      omega
    · refine lv_iload_n C.1 C.2.1 dX0_size_10 rfl (lv_at hl 2 rfl) ?_
      refine xt_iconst C 1 dX0_size_11 (by decide +kernel) ?_
      refine xt_icmp_lt C (by omega) (by omega) dX0_size_12 (tgt := 20) (by decide) (fun h12 => ?_) (fun h12 => ?_)
      · exfalso
        omega
      · refine lv_iload_n C.1 C.2.1 dX0_size_15 rfl (lv_at hl 2 rfl) ?_
        refine xt_iconst C 4 dX0_size_16 (by decide +kernel) ?_
        refine xt_icmp_le C (by omega) (by omega) dX0_size_17 (tgt := 22) (by decide) (fun h17 => ?_) (fun h17 => ?_)
        · refine lv_aload_n C.1 C.2.1 dX0_size_22 rfl (lv_at hl 0 rfl) ?_
          refine lv_iload_n C.1 C.2.1 dX0_size_23 rfl (lv_at hl 1 rfl) ?_
          refine lv_iload_n C.1 C.2.1 dX0_size_24 rfl (lv_at hl 2 rfl) ?_
          refine xt_cvd hA hW (xt_runV C hW.1 hW.2.1 cwX0_X0_startAnew (cx_startAnew l D cI cL ad S K n wc dn w lw sy sb sh rw rk dr a b (by omega) (by omega)) rfl rfl rfl hl.1 (rest := []) rfl (Nat.le_of_ble_eq_true rfl) ⟨(Nat.le_of_ble_eq_true rfl), (Nat.le_of_ble_eq_true rfl)⟩ ⟨Nat.zero_le _, Nat.zero_le _⟩ dX0_size_25) (fun u H locs hp25 hW => ?_)
          obtain ⟨w_25, sb_25, sh_25, wc_25, rw_25, rk_25⟩ := u
          replace hW : xt_W D A ss.heap (xX ad cI cL a b 0 wc_25 0 w_25 lw sy sb_25 sh_25 rw_25 rk_25 dr) H locs := hW
          replace hp25 : (∀ j, j < 36 → w_25 j = 1) ∧ xq_ok a 0 w_25 sy sb_25 sh_25 wc_25 rw_25 rk_25 := hp25
          refine xt_iconst C 1 dX0_size_28 (by decide +kernel) ?_
          exact xt_zret C hE (w_25, sb_25, sh_25, wc_25, rw_25, rk_25) hW (by first | exact Or.inl rfl | exact Or.inr rfl) (⟨rfl, hp25⟩) dX0_size_29
        · exfalso
          omega
set_option maxHeartbeats 4000000 in
set_option maxRecDepth 100000 in
theorem cx_size_n (l : Launch) (D : va_G) (cI cL : ClassId) (ad : Nat → Nat) (S K n wc dn : Nat) (w lw sy sb sh rw rk dr : Nat → Nat) (a : Int32) (b : Int32) (hno : ¬ ∃ s k, a = nI s ∧ b = nI k ∧ 1 ≤ s ∧ s ≤ 3 ∧ 1 ≤ k ∧ k ≤ 4) : xt_M l yX0_size cX0_size 3 (some .boolean) 11 D cI cL [.ref (ad 0), .int a, .int b] (xX ad cI cL S K n wc dn w lw sy sb sh rw rk dr) (xt_Qi D cI cL (xX ad cI cL S K n wc dn w lw sy sb sh rw rk dr) (fun (r : Int32) (u : Unit) => r = nI 0) (fun u => xX ad cI cL S K n wc dn w lw sy sb sh rw rk dr)) := by
  refine xt_start (own := RX0) rfl (by decide) (Nat.le_of_ble_eq_true rfl) (fun pg ev ss mi args below meth cd A Q ls C hE hA hl hW => ?_)
  replace hl : lv_has ls 3 [(0, .ref (ad 0)), (1, .int a), (2, .int b)] := hl
  refine lv_iload_n C.1 C.2.1 dX0_size_0 rfl (lv_at hl 1 rfl) ?_
  refine xt_iconst C 1 dX0_size_1 (by decide +kernel) ?_
  refine lv_icmp_lt C.1 C.2.1 dX0_size_2 (tgt := 20) (by decide) (fun h2 => ?_) (fun h2 => ?_)
  · refine xt_iconst C 0 dX0_size_20 (by decide +kernel) ?_
    exact xt_zret C hE () hW (by first | exact Or.inl rfl | exact Or.inr rfl) (rfl) dX0_size_21
  · refine lv_iload_n C.1 C.2.1 dX0_size_5 rfl (lv_at hl 1 rfl) ?_
    refine xt_iconst C 3 dX0_size_6 (by decide +kernel) ?_
    refine lv_icmp_gt C.1 C.2.1 dX0_size_7 (tgt := 20) (by decide) (fun h7 => ?_) (fun h7 => ?_)
    · refine xt_iconst C 0 dX0_size_20 (by decide +kernel) ?_
      exact xt_zret C hE () hW (by first | exact Or.inl rfl | exact Or.inr rfl) (rfl) dX0_size_21
    · refine lv_iload_n C.1 C.2.1 dX0_size_10 rfl (lv_at hl 2 rfl) ?_
      refine xt_iconst C 1 dX0_size_11 (by decide +kernel) ?_
      refine lv_icmp_lt C.1 C.2.1 dX0_size_12 (tgt := 20) (by decide) (fun h12 => ?_) (fun h12 => ?_)
      · refine xt_iconst C 0 dX0_size_20 (by decide +kernel) ?_
        exact xt_zret C hE () hW (by first | exact Or.inl rfl | exact Or.inr rfl) (rfl) dX0_size_21
      · refine lv_iload_n C.1 C.2.1 dX0_size_15 rfl (lv_at hl 2 rfl) ?_
        refine xt_iconst C 4 dX0_size_16 (by decide +kernel) ?_
        refine lv_icmp_le C.1 C.2.1 dX0_size_17 (tgt := 22) (by decide) (fun h17 => ?_) (fun h17 => ?_)
        · exfalso
          exact hno (xq_sz h2 h7 h12 h17)
        · refine xt_iconst C 0 dX0_size_20 (by decide +kernel) ?_
          exact xt_zret C hE () hW (by first | exact Or.inl rfl | exact Or.inr rfl) (rfl) dX0_size_21
set_option maxHeartbeats 4000000 in
set_option maxRecDepth 100000 in
theorem cx_weigh_y (l : Launch) (D : va_G) (cI cL : ClassId) (ad : Nat → Nat) (S K n wc dn : Nat) (w lw sy sb sh rw rk dr : Nat → Nat) (ka : Nat) (kb : Nat) (kc : Nat) (v : Nat) (hV : xq_V S K n wc w lw sy sb sh rw rk) (hk : xq_kr S K ka kb kc) (hv9 : v ≤ 9) : xt_M l yX0_weigh cX0_weigh 5 (some .boolean) 10 D cI cL [.ref (ad 0), .int (nI ka), .int (nI kb), .int (nI kc), .int (nI v)] (xX ad cI cL S K n wc dn w lw sy sb sh rw rk dr) (xt_Qi D cI cL (xX ad cI cL S K n wc dn w lw sy sb sh rw rk dr) (fun (r : Int32) (u : (Nat → Nat) × (Nat → Nat) × (Nat) × (Nat → Nat) × (Nat → Nat)) => r = nI 1 ∧ xq_ok S n (va_up w ((ka * 3 + kb) * 4 + kc) v) sy u.1 u.2.1 u.2.2.1 u.2.2.2.1 u.2.2.2.2) (fun u => xX ad cI cL S K n u.2.2.1 dn (va_up w ((ka * 3 + kb) * 4 + kc) v) lw sy u.1 u.2.1 u.2.2.2.1 u.2.2.2.2 dr)) := by
  obtain ⟨hS0, hS3, hK0, hK4, hn6, hw, hlw, hsK, hok⟩ := hV
  have hsy : ∀ p, p < n → sy p < 4 := fun p h => Nat.lt_of_lt_of_le (hsK p h) hK4
  have hku := hk; unfold xq_kr at hku
  refine xt_start (own := RX0) rfl (by decide) (Nat.le_of_ble_eq_true rfl) (fun pg ev ss mi args below meth cd A Q ls C hE hA hl hW => ?_)
  replace hl : lv_has ls 5 [(0, .ref (ad 0)), (1, .int (nI ka)), (2, .int (nI kb)), (3, .int (nI kc)), (4, .int (nI v))] := hl
  refine lv_aload_n C.1 C.2.1 dX0_weigh_0 rfl (lv_at hl 0 rfl) ?_
  refine lv_iload_n C.1 C.2.1 dX0_weigh_1 rfl (lv_at hl 1 rfl) ?_
  refine lv_iload_n C.1 C.2.1 dX0_weigh_2 rfl (lv_at hl 2 rfl) ?_
  refine lv_iload_n C.1 C.2.1 dX0_weigh_3 rfl (lv_at hl 3 rfl) ?_
  refine xt_ci hA hW (xt_runV C hW.1 hW.2.1 cwX0_X0_hasWeight (cx_hasWeight l D cI cL ad S K n wc dn w lw sy sb sh rw rk dr (nI ka) (nI kb) (nI kc) (by omega) (by omega)) rfl rfl rfl hl.1 (rest := []) rfl (Nat.le_of_ble_eq_true rfl) ⟨(Nat.le_of_ble_eq_true rfl), (Nat.le_of_ble_eq_true rfl)⟩ ⟨Nat.zero_le _, Nat.zero_le _⟩ dX0_weigh_4) (fun r4 u H locs hp4 hW => ?_)
  replace hW : xt_W D A ss.heap (xX ad cI cL S K n wc dn w lw sy sb sh rw rk dr) H locs := hW
  replace hp4 : (r4 = nI 1 ∧ ∃ a b c, xt_ok S K (nI ka) (nI kb) (nI kc) a b c) ∨ (r4 = nI 0 ∧ ¬ ∃ a b c, xt_ok S K (nI ka) (nI kb) (nI kc) a b c) := hp4
  rcases hp4 with ⟨rfl, -⟩ | ⟨-, hno⟩
  · replace hl : lv_has ls 5 [(0, .ref (ad 0)), (1, .int (nI ka)), (2, .int (nI kb)), (3, .int (nI kc)), (4, .int (nI v))] := hl
    refine xt_if_eq C (by omega) dX0_weigh_7 (tgt := 22) (by decide) (fun h7 => ?_) (fun h7 => ?_)
    · exfalso
      omega
    · refine lv_iload C.1 C.2.1 dX0_weigh_10 (lv_at hl 4 rfl) ?_
      refine xt_if_lt C (by omega) dX0_weigh_12 (tgt := 22) (by decide) ?_
      refine lv_iload C.1 C.2.1 dX0_weigh_15 (lv_at hl 4 rfl) ?_
      refine xt_bipush C 9 dX0_weigh_17 (by decide +kernel) ?_
      refine xt_icmp_le C (by omega) (by omega) dX0_weigh_19 (tgt := 24) (by decide) (fun h19 => ?_) (fun h19 => ?_)
      · refine lv_aload_n C.1 C.2.1 dX0_weigh_24 rfl (lv_at hl 0 rfl) ?_
        refine xt_get xt_inX0 C hW 0 rfl rfl 2 (by decide) rfl flX0_weights rfl dX0_weigh_25 ?_
        refine lv_iload_n C.1 C.2.1 dX0_weigh_28 rfl (lv_at hl 1 rfl) ?_
        refine lv_iload_n C.1 C.2.1 dX0_weigh_29 rfl (lv_at hl 2 rfl) ?_
        refine lv_iload_n C.1 C.2.1 dX0_weigh_30 rfl (lv_at hl 3 rfl) ?_
        refine xt_ci hA hW (xt_runS C hW.1 hW.2.1 cwX0_X0_slot (cx_slot l D cI cL (xX ad cI cL S K n wc dn w lw sy sb sh rw rk dr) ka kb kc) rfl hl.1 (rest := [.ref (ad 1)]) rfl (Nat.le_of_ble_eq_true rfl) ⟨(Nat.le_of_ble_eq_true rfl), (Nat.le_of_ble_eq_true rfl)⟩ ⟨Nat.zero_le _, Nat.zero_le _⟩ dX0_weigh_31) (fun r31 u H locs hp31 hW => ?_)
        replace hW : xt_W D A ss.heap (xX ad cI cL S K n wc dn w lw sy sb sh rw rk dr) H locs := hW
        subst hp31
        refine lv_iload C.1 C.2.1 dX0_weigh_34 (lv_at hl 4 rfl) ?_
        refine xt_iast C hW 1 rfl (by decide) dX0_weigh_36 (by omega) (fun H locs hW => ?_)
        replace hW : xt_W D A ss.heap (xX ad cI cL S K n wc dn (va_up w ((ka * 3 + kb) * 4 + kc) v) lw sy sb sh rw rk dr) H locs := hW
        refine lv_aload_n C.1 C.2.1 dX0_weigh_37 rfl (lv_at hl 0 rfl) ?_
        refine xt_cvd hA hW (xt_runV C hW.1 hW.2.1 cwX0_X0_reckon (cx_reckon l D cI cL ad S K n wc dn (va_up w ((ka * 3 + kb) * 4 + kc) v) lw sy sb sh rw rk dr (by omega) (by omega) (by omega) (xq_upb hw hv9) (hsy)) rfl rfl rfl hl.1 (rest := []) rfl (Nat.le_of_ble_eq_true rfl) ⟨(Nat.le_of_ble_eq_true rfl), (Nat.le_of_ble_eq_true rfl)⟩ ⟨Nat.zero_le _, Nat.zero_le _⟩ dX0_weigh_38) (fun u H locs hp38 hW => ?_)
        obtain ⟨sb_38, sh_38, wc_38, rw_38, rk_38⟩ := u
        replace hW : xt_W D A ss.heap (xX ad cI cL S K n wc_38 dn (va_up w ((ka * 3 + kb) * 4 + kc) v) lw sy sb_38 sh_38 rw_38 rk_38 dr) H locs := hW
        replace hp38 : xq_ok S n (va_up w ((ka * 3 + kb) * 4 + kc) v) sy sb_38 sh_38 wc_38 rw_38 rk_38 := hp38
        refine xt_iconst C 1 dX0_weigh_41 (by decide +kernel) ?_
        exact xt_zret C hE (sb_38, sh_38, wc_38, rw_38, rk_38) hW (by first | exact Or.inl rfl | exact Or.inr rfl) (⟨rfl, hp38⟩) dX0_weigh_42
      · exfalso
        omega
  · exact absurd (⟨ka, kb, kc, rfl, rfl, rfl, hk⟩) hno
set_option maxHeartbeats 4000000 in
set_option maxRecDepth 100000 in
theorem cx_weigh_n (l : Launch) (D : va_G) (cI cL : ClassId) (ad : Nat → Nat) (S K n wc dn : Nat) (w lw sy sb sh rw rk dr : Nat → Nat) (kd : Int32) (ro : Int32) (co : Int32) (x : Int32) (hV : xq_V S K n wc w lw sy sb sh rw rk) (hno : ¬ ((∃ a b c, xt_ok S K kd ro co a b c) ∧ ∃ v, v ≤ 9 ∧ x = nI v)) : xt_M l yX0_weigh cX0_weigh 5 (some .boolean) 10 D cI cL [.ref (ad 0), .int kd, .int ro, .int co, .int x] (xX ad cI cL S K n wc dn w lw sy sb sh rw rk dr) (xt_Qi D cI cL (xX ad cI cL S K n wc dn w lw sy sb sh rw rk dr) (fun (r : Int32) (u : Unit) => r = nI 0) (fun u => xX ad cI cL S K n wc dn w lw sy sb sh rw rk dr)) := by
  obtain ⟨hS0, hS3, hK0, hK4, hn6, hw, hlw, hsK, hok⟩ := hV
  have hsy : ∀ p, p < n → sy p < 4 := fun p h => Nat.lt_of_lt_of_le (hsK p h) hK4
  refine xt_start (own := RX0) rfl (by decide) (Nat.le_of_ble_eq_true rfl) (fun pg ev ss mi args below meth cd A Q ls C hE hA hl hW => ?_)
  replace hl : lv_has ls 5 [(0, .ref (ad 0)), (1, .int kd), (2, .int ro), (3, .int co), (4, .int x)] := hl
  refine lv_aload_n C.1 C.2.1 dX0_weigh_0 rfl (lv_at hl 0 rfl) ?_
  refine lv_iload_n C.1 C.2.1 dX0_weigh_1 rfl (lv_at hl 1 rfl) ?_
  refine lv_iload_n C.1 C.2.1 dX0_weigh_2 rfl (lv_at hl 2 rfl) ?_
  refine lv_iload_n C.1 C.2.1 dX0_weigh_3 rfl (lv_at hl 3 rfl) ?_
  refine xt_ci hA hW (xt_runV C hW.1 hW.2.1 cwX0_X0_hasWeight (cx_hasWeight l D cI cL ad S K n wc dn w lw sy sb sh rw rk dr kd ro co (by omega) (by omega)) rfl rfl rfl hl.1 (rest := []) rfl (Nat.le_of_ble_eq_true rfl) ⟨(Nat.le_of_ble_eq_true rfl), (Nat.le_of_ble_eq_true rfl)⟩ ⟨Nat.zero_le _, Nat.zero_le _⟩ dX0_weigh_4) (fun r4 u H locs hp4 hW => ?_)
  replace hW : xt_W D A ss.heap (xX ad cI cL S K n wc dn w lw sy sb sh rw rk dr) H locs := hW
  replace hp4 : (r4 = nI 1 ∧ ∃ a b c, xt_ok S K kd ro co a b c) ∨ (r4 = nI 0 ∧ ¬ ∃ a b c, xt_ok S K kd ro co a b c) := hp4
  rcases hp4 with ⟨rfl, hyes⟩ | ⟨rfl, -⟩
  · replace hl : lv_has ls 5 [(0, .ref (ad 0)), (1, .int kd), (2, .int ro), (3, .int co), (4, .int x)] := hl
    refine xt_if_eq C (by omega) dX0_weigh_7 (tgt := 22) (by decide) (fun h7 => ?_) (fun h7 => ?_)
    · exfalso
      omega
    · refine lv_iload C.1 C.2.1 dX0_weigh_10 (lv_at hl 4 rfl) ?_
      refine lv_if_lt C.1 C.2.1 dX0_weigh_12 (tgt := 22) (by decide) (fun h12 => ?_) (fun h12 => ?_)
      · refine xt_iconst C 0 dX0_weigh_22 (by decide +kernel) ?_
        exact xt_zret C hE () hW (by first | exact Or.inl rfl | exact Or.inr rfl) (rfl) dX0_weigh_23
      · refine lv_iload C.1 C.2.1 dX0_weigh_15 (lv_at hl 4 rfl) ?_
        refine xt_bipush C 9 dX0_weigh_17 (by decide +kernel) ?_
        refine lv_icmp_le C.1 C.2.1 dX0_weigh_19 (tgt := 24) (by decide) (fun h19 => ?_) (fun h19 => ?_)
        · exfalso
          exact hno ⟨hyes, xq_le (by omega) h12 h19⟩
        · refine xt_iconst C 0 dX0_weigh_22 (by decide +kernel) ?_
          exact xt_zret C hE () hW (by first | exact Or.inl rfl | exact Or.inr rfl) (rfl) dX0_weigh_23
  · replace hl : lv_has ls 5 [(0, .ref (ad 0)), (1, .int kd), (2, .int ro), (3, .int co), (4, .int x)] := hl
    refine xt_if_eq C (by omega) dX0_weigh_7 (tgt := 22) (by decide) (fun h7 => ?_) (fun h7 => ?_)
    · refine xt_iconst C 0 dX0_weigh_22 (by decide +kernel) ?_
      exact xt_zret C hE () hW (by first | exact Or.inl rfl | exact Or.inr rfl) (rfl) dX0_weigh_23
    · exfalso
      omega
set_option maxHeartbeats 4000000 in
set_option maxRecDepth 100000 in
theorem cx_weight_y (l : Launch) (D : va_G) (cI cL : ClassId) (ad : Nat → Nat) (S K n wc dn : Nat) (w lw sy sb sh rw rk dr : Nat → Nat) (ka : Nat) (kb : Nat) (kc : Nat) (hV : xq_V S K n wc w lw sy sb sh rw rk) (hk : xq_kr S K ka kb kc) : xt_M l yX0_weight cX0_weight 4 (some .int) 2 D cI cL [.ref (ad 0), .int (nI ka), .int (nI kb), .int (nI kc)] (xX ad cI cL S K n wc dn w lw sy sb sh rw rk dr) (xt_Qi D cI cL (xX ad cI cL S K n wc dn w lw sy sb sh rw rk dr) (fun (r : Int32) (u : Unit) => r = nI (w ((ka * 3 + kb) * 4 + kc))) (fun u => xX ad cI cL S K n wc dn w lw sy sb sh rw rk dr)) := by
  obtain ⟨hS0, hS3, hK0, hK4, hn6, hw, hlw, hsK, hok⟩ := hV
  have hsy : ∀ p, p < n → sy p < 4 := fun p h => Nat.lt_of_lt_of_le (hsK p h) hK4
  have hku := hk; unfold xq_kr at hku
  refine xt_start (own := RX0) rfl (by decide) (Nat.le_of_ble_eq_true rfl) (fun pg ev ss mi args below meth cd A Q ls C hE hA hl hW => ?_)
  replace hl : lv_has ls 4 [(0, .ref (ad 0)), (1, .int (nI ka)), (2, .int (nI kb)), (3, .int (nI kc))] := hl
  refine lv_aload_n C.1 C.2.1 dX0_weight_0 rfl (lv_at hl 0 rfl) ?_
  refine lv_iload_n C.1 C.2.1 dX0_weight_1 rfl (lv_at hl 1 rfl) ?_
  refine lv_iload_n C.1 C.2.1 dX0_weight_2 rfl (lv_at hl 2 rfl) ?_
  refine lv_iload_n C.1 C.2.1 dX0_weight_3 rfl (lv_at hl 3 rfl) ?_
  refine xt_ci hA hW (xt_runV C hW.1 hW.2.1 cwX0_X0_hasWeight (cx_hasWeight l D cI cL ad S K n wc dn w lw sy sb sh rw rk dr (nI ka) (nI kb) (nI kc) (by omega) (by omega)) rfl rfl rfl hl.1 (rest := []) rfl (Nat.le_of_ble_eq_true rfl) ⟨(Nat.le_of_ble_eq_true rfl), (Nat.le_of_ble_eq_true rfl)⟩ ⟨Nat.zero_le _, Nat.zero_le _⟩ dX0_weight_4) (fun r4 u H locs hp4 hW => ?_)
  replace hW : xt_W D A ss.heap (xX ad cI cL S K n wc dn w lw sy sb sh rw rk dr) H locs := hW
  replace hp4 : (r4 = nI 1 ∧ ∃ a b c, xt_ok S K (nI ka) (nI kb) (nI kc) a b c) ∨ (r4 = nI 0 ∧ ¬ ∃ a b c, xt_ok S K (nI ka) (nI kb) (nI kc) a b c) := hp4
  rcases hp4 with ⟨rfl, -⟩ | ⟨-, hno⟩
  · replace hl : lv_has ls 4 [(0, .ref (ad 0)), (1, .int (nI ka)), (2, .int (nI kb)), (3, .int (nI kc))] := hl
    refine xt_if_eq C (by omega) dX0_weight_7 (tgt := 24) (by decide) (fun h7 => ?_) (fun h7 => ?_)
    · exfalso
      omega
    · refine lv_aload_n C.1 C.2.1 dX0_weight_10 rfl (lv_at hl 0 rfl) ?_
      refine xt_get xt_inX0 C hW 0 rfl rfl 2 (by decide) rfl flX0_weights rfl dX0_weight_11 ?_
      refine lv_iload_n C.1 C.2.1 dX0_weight_14 rfl (lv_at hl 1 rfl) ?_
      refine lv_iload_n C.1 C.2.1 dX0_weight_15 rfl (lv_at hl 2 rfl) ?_
      refine lv_iload_n C.1 C.2.1 dX0_weight_16 rfl (lv_at hl 3 rfl) ?_
      refine xt_ci hA hW (xt_runS C hW.1 hW.2.1 cwX0_X0_slot (cx_slot l D cI cL (xX ad cI cL S K n wc dn w lw sy sb sh rw rk dr) ka kb kc) rfl hl.1 (rest := [.ref (ad 1)]) rfl (Nat.le_of_ble_eq_true rfl) ⟨(Nat.le_of_ble_eq_true rfl), (Nat.le_of_ble_eq_true rfl)⟩ ⟨Nat.zero_le _, Nat.zero_le _⟩ dX0_weight_17) (fun r17 u H locs hp17 hW => ?_)
      replace hW : xt_W D A ss.heap (xX ad cI cL S K n wc dn w lw sy sb sh rw rk dr) H locs := hW
      subst hp17
      refine xt_iald C hW 1 rfl (by decide) dX0_weight_20 (by omega) ?_
      refine lv_goto C.1 C.2.1 dX0_weight_21 (tgt := 25) (by decide) ?_
      exact xt_iret C hE () hW (rfl) dX0_weight_25
  · exact absurd (⟨ka, kb, kc, rfl, rfl, rfl, hk⟩) hno
set_option maxHeartbeats 4000000 in
set_option maxRecDepth 100000 in
theorem cx_weight_n (l : Launch) (D : va_G) (cI cL : ClassId) (ad : Nat → Nat) (S K n wc dn : Nat) (w lw sy sb sh rw rk dr : Nat → Nat) (kd : Int32) (ro : Int32) (co : Int32) (hV : xq_V S K n wc w lw sy sb sh rw rk) (hno : ¬ ∃ a b c, xt_ok S K kd ro co a b c) : xt_M l yX0_weight cX0_weight 4 (some .int) 2 D cI cL [.ref (ad 0), .int kd, .int ro, .int co] (xX ad cI cL S K n wc dn w lw sy sb sh rw rk dr) (xt_Qi D cI cL (xX ad cI cL S K n wc dn w lw sy sb sh rw rk dr) (fun (r : Int32) (u : Unit) => r =  (-1)) (fun u => xX ad cI cL S K n wc dn w lw sy sb sh rw rk dr)) := by
  obtain ⟨hS0, hS3, hK0, hK4, hn6, hw, hlw, hsK, hok⟩ := hV
  have hsy : ∀ p, p < n → sy p < 4 := fun p h => Nat.lt_of_lt_of_le (hsK p h) hK4
  refine xt_start (own := RX0) rfl (by decide) (Nat.le_of_ble_eq_true rfl) (fun pg ev ss mi args below meth cd A Q ls C hE hA hl hW => ?_)
  replace hl : lv_has ls 4 [(0, .ref (ad 0)), (1, .int kd), (2, .int ro), (3, .int co)] := hl
  refine lv_aload_n C.1 C.2.1 dX0_weight_0 rfl (lv_at hl 0 rfl) ?_
  refine lv_iload_n C.1 C.2.1 dX0_weight_1 rfl (lv_at hl 1 rfl) ?_
  refine lv_iload_n C.1 C.2.1 dX0_weight_2 rfl (lv_at hl 2 rfl) ?_
  refine lv_iload_n C.1 C.2.1 dX0_weight_3 rfl (lv_at hl 3 rfl) ?_
  refine xt_ci hA hW (xt_runV C hW.1 hW.2.1 cwX0_X0_hasWeight (cx_hasWeight l D cI cL ad S K n wc dn w lw sy sb sh rw rk dr kd ro co (by omega) (by omega)) rfl rfl rfl hl.1 (rest := []) rfl (Nat.le_of_ble_eq_true rfl) ⟨(Nat.le_of_ble_eq_true rfl), (Nat.le_of_ble_eq_true rfl)⟩ ⟨Nat.zero_le _, Nat.zero_le _⟩ dX0_weight_4) (fun r4 u H locs hp4 hW => ?_)
  replace hW : xt_W D A ss.heap (xX ad cI cL S K n wc dn w lw sy sb sh rw rk dr) H locs := hW
  replace hp4 : (r4 = nI 1 ∧ ∃ a b c, xt_ok S K kd ro co a b c) ∨ (r4 = nI 0 ∧ ¬ ∃ a b c, xt_ok S K kd ro co a b c) := hp4
  rcases hp4 with ⟨-, hz⟩ | ⟨rfl, -⟩
  · exact absurd (hz) hno
  · replace hl : lv_has ls 4 [(0, .ref (ad 0)), (1, .int kd), (2, .int ro), (3, .int co)] := hl
    refine xt_if_eq C (by omega) dX0_weight_7 (tgt := 24) (by decide) (fun h7 => ?_) (fun h7 => ?_)
    · refine lv_iconst (v := -1) C.1 C.2.1 dX0_weight_24 (by decide +kernel) ?_
      exact xt_iret C hE () hW (rfl) dX0_weight_25
    · exfalso
      omega
set_option maxHeartbeats 4000000 in
set_option maxRecDepth 100000 in
theorem cx_see_y (l : Launch) (D : va_G) (cI cL : ClassId) (ad : Nat → Nat) (S K n wc dn : Nat) (w lw sy sb sh rw rk dr : Nat → Nat) (k : Nat) (hV : xq_V S K n wc w lw sy sb sh rw rk) (hkK : k < K) (hnn : n < 6) : xt_M l yX0_see cX0_see 2 (some .int) 10 D cI cL [.ref (ad 0), .int (nI k)] (xX ad cI cL S K n wc dn w lw sy sb sh rw rk dr) (xt_Qi D cI cL (xX ad cI cL S K n wc dn w lw sy sb sh rw rk dr) (fun (r : Int32) (u : (Nat → Nat) × (Nat → Nat) × (Nat) × (Nat → Nat) × (Nat → Nat)) => r = nI (n + 1) ∧ xq_ok S (n + 1) w (va_up sy n k) u.1 u.2.1 u.2.2.1 u.2.2.2.1 u.2.2.2.2) (fun u => xX ad cI cL S K (n + 1) u.2.2.1 dn w lw (va_up sy n k) u.1 u.2.1 u.2.2.2.1 u.2.2.2.2 dr)) := by
  obtain ⟨hS0, hS3, hK0, hK4, hn6, hw, hlw, hsK, hok⟩ := hV
  have hsy : ∀ p, p < n → sy p < 4 := fun p h => Nat.lt_of_lt_of_le (hsK p h) hK4
  refine xt_start (own := RX0) rfl (by decide) (Nat.le_of_ble_eq_true rfl) (fun pg ev ss mi args below meth cd A Q ls C hE hA hl hW => ?_)
  replace hl : lv_has ls 2 [(0, .ref (ad 0)), (1, .int (nI k))] := hl
  refine lv_iload_n C.1 C.2.1 dX0_see_0 rfl (lv_at hl 1 rfl) ?_
  refine xt_if_lt C (by omega) dX0_see_1 (tgt := 21) (by decide) ?_
  refine lv_iload_n C.1 C.2.1 dX0_see_4 rfl (lv_at hl 1 rfl) ?_
  refine lv_aload_n C.1 C.2.1 dX0_see_5 rfl (lv_at hl 0 rfl) ?_
  refine xt_get xt_inX0 C hW 0 rfl rfl 1 (by decide) rfl flX0_symbolCount rfl dX0_see_6 ?_
  refine xt_icmp_ge C (by omega) (by omega) dX0_see_9 (tgt := 21) (by decide) (fun h9 => ?_) (fun h9 => ?_)
  · exfalso
    omega
  · refine lv_aload_n C.1 C.2.1 dX0_see_12 rfl (lv_at hl 0 rfl) ?_
    refine xt_get xt_inX0 C hW 0 rfl rfl 4 (by decide) rfl flX0_seenCount rfl dX0_see_13 ?_
    refine xt_bipush C 6 dX0_see_16 (by decide +kernel) ?_
    refine xt_icmp_lt C (by omega) (by omega) dX0_see_18 (tgt := 23) (by decide) (fun h18 => ?_) (fun h18 => ?_)
    · refine lv_aload_n C.1 C.2.1 dX0_see_23 rfl (lv_at hl 0 rfl) ?_
      refine xt_get xt_inX0 C hW 0 rfl rfl 5 (by decide) rfl flX0_seenSymbols rfl dX0_see_24 ?_
      refine lv_aload_n C.1 C.2.1 dX0_see_27 rfl (lv_at hl 0 rfl) ?_
      refine xt_get xt_inX0 C hW 0 rfl rfl 4 (by decide) rfl flX0_seenCount rfl dX0_see_28 ?_
      refine lv_iload_n C.1 C.2.1 dX0_see_31 rfl (lv_at hl 1 rfl) ?_
      refine xt_iast C hW 3 rfl (by decide) dX0_see_32 (by omega) (fun H locs hW => ?_)
      replace hW : xt_W D A ss.heap (xX ad cI cL S K n wc dn w lw (va_up sy n k) sb sh rw rk dr) H locs := hW
      refine lv_aload_n C.1 C.2.1 dX0_see_33 rfl (lv_at hl 0 rfl) ?_
      refine lv_dup C.1 C.2.1 dX0_see_34 rfl ?_
      refine xt_get xt_inX0 C hW 0 rfl rfl 4 (by decide) rfl flX0_seenCount rfl dX0_see_35 ?_
      refine xt_iconst C 1 dX0_see_38 (by decide +kernel) ?_
      refine xt_iadd C dX0_see_39 ?_
      refine xt_put (ty := .int) xt_inX0 tyX0 tyX0_ok nmX0 C hW 0 rfl rfl 4 (by decide) rfl flX0_seenCount rfl (by decide +kernel) rfl rfl (Nat.le_of_ble_eq_true rfl) dX0_see_40 (fun H locs hW => ?_)
      replace hW : xt_W D A ss.heap (xX ad cI cL S K (n + 1) wc dn w lw (va_up sy n k) sb sh rw rk dr) H locs := hW
      refine W.eq (g2 := F0 mi 43 ls []) rfl ?_
      refine lv_aload_n C.1 C.2.1 dX0_see_43 rfl (lv_at hl 0 rfl) ?_
      refine xt_cvd hA hW (xt_runV C hW.1 hW.2.1 cwX0_X0_reckon (cx_reckon l D cI cL ad S K (n + 1) wc dn w lw (va_up sy n k) sb sh rw rk dr (by omega) (by omega) (by omega) (hw) (xq_upl hsy (by omega))) rfl rfl rfl hl.1 (rest := []) rfl (Nat.le_of_ble_eq_true rfl) ⟨(Nat.le_of_ble_eq_true rfl), (Nat.le_of_ble_eq_true rfl)⟩ ⟨Nat.zero_le _, Nat.zero_le _⟩ dX0_see_44) (fun u H locs hp44 hW => ?_)
      obtain ⟨sb_44, sh_44, wc_44, rw_44, rk_44⟩ := u
      replace hW : xt_W D A ss.heap (xX ad cI cL S K (n + 1) wc_44 dn w lw (va_up sy n k) sb_44 sh_44 rw_44 rk_44 dr) H locs := hW
      replace hp44 : xq_ok S (n + 1) w (va_up sy n k) sb_44 sh_44 wc_44 rw_44 rk_44 := hp44
      refine lv_aload_n C.1 C.2.1 dX0_see_47 rfl (lv_at hl 0 rfl) ?_
      refine xt_get xt_inX0 C hW 0 rfl rfl 4 (by decide) rfl flX0_seenCount rfl dX0_see_48 ?_
      exact xt_iret C hE (sb_44, sh_44, wc_44, rw_44, rk_44) hW (⟨rfl, hp44⟩) dX0_see_51
    · exfalso
      omega
set_option maxHeartbeats 4000000 in
set_option maxRecDepth 100000 in
theorem cx_see_n (l : Launch) (D : va_G) (cI cL : ClassId) (ad : Nat → Nat) (S K n wc dn : Nat) (w lw sy sb sh rw rk dr : Nat → Nat) (q : Int32) (hV : xq_V S K n wc w lw sy sb sh rw rk) (hno : ¬ ((∃ j, j < K ∧ q = nI j) ∧ n < 6)) : xt_M l yX0_see cX0_see 2 (some .int) 10 D cI cL [.ref (ad 0), .int q] (xX ad cI cL S K n wc dn w lw sy sb sh rw rk dr) (xt_Qi D cI cL (xX ad cI cL S K n wc dn w lw sy sb sh rw rk dr) (fun (r : Int32) (u : Unit) => r =  (-1)) (fun u => xX ad cI cL S K n wc dn w lw sy sb sh rw rk dr)) := by
  obtain ⟨hS0, hS3, hK0, hK4, hn6, hw, hlw, hsK, hok⟩ := hV
  have hsy : ∀ p, p < n → sy p < 4 := fun p h => Nat.lt_of_lt_of_le (hsK p h) hK4
  refine xt_start (own := RX0) rfl (by decide) (Nat.le_of_ble_eq_true rfl) (fun pg ev ss mi args below meth cd A Q ls C hE hA hl hW => ?_)
  replace hl : lv_has ls 2 [(0, .ref (ad 0)), (1, .int q)] := hl
  refine lv_iload_n C.1 C.2.1 dX0_see_0 rfl (lv_at hl 1 rfl) ?_
  refine lv_if_lt C.1 C.2.1 dX0_see_1 (tgt := 21) (by decide) (fun h1 => ?_) (fun h1 => ?_)
  · refine lv_iconst (v := -1) C.1 C.2.1 dX0_see_21 (by decide +kernel) ?_
    exact xt_iret C hE () hW (rfl) dX0_see_22
  · refine lv_iload_n C.1 C.2.1 dX0_see_4 rfl (lv_at hl 1 rfl) ?_
    refine lv_aload_n C.1 C.2.1 dX0_see_5 rfl (lv_at hl 0 rfl) ?_
    refine xt_get xt_inX0 C hW 0 rfl rfl 1 (by decide) rfl flX0_symbolCount rfl dX0_see_6 ?_
    refine lv_icmp_ge C.1 C.2.1 dX0_see_9 (tgt := 21) (by decide) (fun h9 => ?_) (fun h9 => ?_)
    · refine lv_iconst (v := -1) C.1 C.2.1 dX0_see_21 (by decide +kernel) ?_
      exact xt_iret C hE () hW (rfl) dX0_see_22
    · refine lv_aload_n C.1 C.2.1 dX0_see_12 rfl (lv_at hl 0 rfl) ?_
      refine xt_get xt_inX0 C hW 0 rfl rfl 4 (by decide) rfl flX0_seenCount rfl dX0_see_13 ?_
      refine xt_bipush C 6 dX0_see_16 (by decide +kernel) ?_
      refine xt_icmp_lt C (by omega) (by omega) dX0_see_18 (tgt := 23) (by decide) (fun h18 => ?_) (fun h18 => ?_)
      · exfalso
        exact hno ⟨xq_yes (by omega) h1 h9, by omega⟩
      · refine lv_iconst (v := -1) C.1 C.2.1 dX0_see_21 (by decide +kernel) ?_
        exact xt_iret C hE () hW (rfl) dX0_see_22
set_option maxHeartbeats 4000000 in
set_option maxRecDepth 100000 in
theorem cx_forget_y (l : Launch) (D : va_G) (cI cL : ClassId) (ad : Nat → Nat) (S K n wc dn : Nat) (w lw sy sb sh rw rk dr : Nat → Nat) (j : Nat) (hV : xq_V S K n wc w lw sy sb sh rw rk) (hjn : j ≤ n) : xt_M l yX0_forget cX0_forget 3 (some .int) 10 D cI cL [.ref (ad 0), .int (nI j)] (xX ad cI cL S K n wc dn w lw sy sb sh rw rk dr) (xt_Qi D cI cL (xX ad cI cL S K n wc dn w lw sy sb sh rw rk dr) (fun (r : Int32) (u : (Nat → Nat) × (Nat → Nat) × (Nat) × (Nat → Nat) × (Nat → Nat)) => r = nI (n - j) ∧ xq_ok S j w sy u.1 u.2.1 u.2.2.1 u.2.2.2.1 u.2.2.2.2) (fun u => xX ad cI cL S K j u.2.2.1 dn w lw sy u.1 u.2.1 u.2.2.2.1 u.2.2.2.2 dr)) := by
  obtain ⟨hS0, hS3, hK0, hK4, hn6, hw, hlw, hsK, hok⟩ := hV
  have hsy : ∀ p, p < n → sy p < 4 := fun p h => Nat.lt_of_lt_of_le (hsK p h) hK4
  refine xt_start (own := RX0) rfl (by decide) (Nat.le_of_ble_eq_true rfl) (fun pg ev ss mi args below meth cd A Q ls C hE hA hl hW => ?_)
  replace hl : lv_has ls 3 [(0, .ref (ad 0)), (1, .int (nI j))] := hl
  refine lv_iload_n C.1 C.2.1 dX0_forget_0 rfl (lv_at hl 1 rfl) ?_
  refine xt_if_lt C (by omega) dX0_forget_1 (tgt := 12) (by decide) ?_
  refine lv_iload_n C.1 C.2.1 dX0_forget_4 rfl (lv_at hl 1 rfl) ?_
  refine lv_aload_n C.1 C.2.1 dX0_forget_5 rfl (lv_at hl 0 rfl) ?_
  refine xt_get xt_inX0 C hW 0 rfl rfl 4 (by decide) rfl flX0_seenCount rfl dX0_forget_6 ?_
  refine xt_icmp_le C (by omega) (by omega) dX0_forget_9 (tgt := 14) (by decide) (fun h9 => ?_) (fun h9 => ?_)
  · refine lv_aload_n C.1 C.2.1 dX0_forget_14 rfl (lv_at hl 0 rfl) ?_
    refine xt_get xt_inX0 C hW 0 rfl rfl 4 (by decide) rfl flX0_seenCount rfl dX0_forget_15 ?_
    refine lv_iload_n C.1 C.2.1 dX0_forget_18 rfl (lv_at hl 1 rfl) ?_
    refine xt_isub C dX0_forget_19 (by omega) ?_
    refine lv_istore_n C.1 C.2.1 dX0_forget_20 rfl hl (by decide) rfl (fun ls hl => ?_)
    replace hl : lv_has ls 3 [(2, .int (nI (n - j))), (0, .ref (ad 0)), (1, .int (nI j))] := hl
    refine lv_aload_n C.1 C.2.1 dX0_forget_21 rfl (lv_at hl 1 rfl) ?_
    refine lv_iload_n C.1 C.2.1 dX0_forget_22 rfl (lv_at hl 2 rfl) ?_
    refine xt_put (ty := .int) xt_inX0 tyX0 tyX0_ok nmX0 C hW 0 rfl rfl 4 (by decide) rfl flX0_seenCount rfl (by decide +kernel) rfl rfl (Nat.le_of_ble_eq_true rfl) dX0_forget_23 (fun H locs hW => ?_)
    replace hW : xt_W D A ss.heap (xX ad cI cL S K j wc dn w lw sy sb sh rw rk dr) H locs := hW
    refine lv_aload_n C.1 C.2.1 dX0_forget_26 rfl (lv_at hl 1 rfl) ?_
    refine xt_cvd hA hW (xt_runV C hW.1 hW.2.1 cwX0_X0_reckon (cx_reckon l D cI cL ad S K j wc dn w lw sy sb sh rw rk dr (by omega) (by omega) (by omega) (hw) (fun p h => hsy p (by omega))) rfl rfl rfl hl.1 (rest := []) rfl (Nat.le_of_ble_eq_true rfl) ⟨(Nat.le_of_ble_eq_true rfl), (Nat.le_of_ble_eq_true rfl)⟩ ⟨Nat.zero_le _, Nat.zero_le _⟩ dX0_forget_27) (fun u H locs hp27 hW => ?_)
    obtain ⟨sb_27, sh_27, wc_27, rw_27, rk_27⟩ := u
    replace hW : xt_W D A ss.heap (xX ad cI cL S K j wc_27 dn w lw sy sb_27 sh_27 rw_27 rk_27 dr) H locs := hW
    replace hp27 : xq_ok S j w sy sb_27 sh_27 wc_27 rw_27 rk_27 := hp27
    refine lv_iload_n C.1 C.2.1 dX0_forget_30 rfl (lv_at hl 0 rfl) ?_
    exact xt_iret C hE (sb_27, sh_27, wc_27, rw_27, rk_27) hW (⟨rfl, hp27⟩) dX0_forget_31
  · exfalso
    omega
set_option maxHeartbeats 4000000 in
set_option maxRecDepth 100000 in
theorem cx_forget_n (l : Launch) (D : va_G) (cI cL : ClassId) (ad : Nat → Nat) (S K n wc dn : Nat) (w lw sy sb sh rw rk dr : Nat → Nat) (q : Int32) (hV : xq_V S K n wc w lw sy sb sh rw rk) (hno : ¬ ∃ j, j ≤ n ∧ q = nI j) : xt_M l yX0_forget cX0_forget 3 (some .int) 10 D cI cL [.ref (ad 0), .int q] (xX ad cI cL S K n wc dn w lw sy sb sh rw rk dr) (xt_Qi D cI cL (xX ad cI cL S K n wc dn w lw sy sb sh rw rk dr) (fun (r : Int32) (u : Unit) => r =  (-1)) (fun u => xX ad cI cL S K n wc dn w lw sy sb sh rw rk dr)) := by
  obtain ⟨hS0, hS3, hK0, hK4, hn6, hw, hlw, hsK, hok⟩ := hV
  have hsy : ∀ p, p < n → sy p < 4 := fun p h => Nat.lt_of_lt_of_le (hsK p h) hK4
  refine xt_start (own := RX0) rfl (by decide) (Nat.le_of_ble_eq_true rfl) (fun pg ev ss mi args below meth cd A Q ls C hE hA hl hW => ?_)
  replace hl : lv_has ls 3 [(0, .ref (ad 0)), (1, .int q)] := hl
  refine lv_iload_n C.1 C.2.1 dX0_forget_0 rfl (lv_at hl 1 rfl) ?_
  refine lv_if_lt C.1 C.2.1 dX0_forget_1 (tgt := 12) (by decide) (fun h1 => ?_) (fun h1 => ?_)
  · refine lv_iconst (v := -1) C.1 C.2.1 dX0_forget_12 (by decide +kernel) ?_
    exact xt_iret C hE () hW (rfl) dX0_forget_13
  · refine lv_iload_n C.1 C.2.1 dX0_forget_4 rfl (lv_at hl 1 rfl) ?_
    refine lv_aload_n C.1 C.2.1 dX0_forget_5 rfl (lv_at hl 0 rfl) ?_
    refine xt_get xt_inX0 C hW 0 rfl rfl 4 (by decide) rfl flX0_seenCount rfl dX0_forget_6 ?_
    refine lv_icmp_le C.1 C.2.1 dX0_forget_9 (tgt := 14) (by decide) (fun h9 => ?_) (fun h9 => ?_)
    · exfalso
      exact hno (xq_le (by omega) h1 h9)
    · refine lv_iconst (v := -1) C.1 C.2.1 dX0_forget_12 (by decide +kernel) ?_
      exact xt_iret C hE () hW (rfl) dX0_forget_13
set_option maxHeartbeats 4000000 in
set_option maxRecDepth 100000 in
theorem cx_seen (l : Launch) (D : va_G) (cI cL : ClassId) (ad : Nat → Nat) (S K n wc dn : Nat) (w lw sy sb sh rw rk dr : Nat → Nat) : xt_M l yX0_seen cX0_seen 1 (some .int) 0 D cI cL [.ref (ad 0)] (xX ad cI cL S K n wc dn w lw sy sb sh rw rk dr) (xt_Qi D cI cL (xX ad cI cL S K n wc dn w lw sy sb sh rw rk dr) (fun (r : Int32) (u : Unit) => r = nI n) (fun u => xX ad cI cL S K n wc dn w lw sy sb sh rw rk dr)) := by
  refine xt_start (own := RX0) rfl (by decide) (Nat.le_of_ble_eq_true rfl) (fun pg ev ss mi args below meth cd A Q ls C hE hA hl hW => ?_)
  replace hl : lv_has ls 1 [(0, .ref (ad 0))] := hl
  refine lv_aload_n C.1 C.2.1 dX0_seen_0 rfl (lv_at hl 0 rfl) ?_
  refine xt_get xt_inX0 C hW 0 rfl rfl 4 (by decide) rfl flX0_seenCount rfl dX0_seen_1 ?_
  exact xt_iret C hE () hW (rfl) dX0_seen_4
set_option maxHeartbeats 4000000 in
set_option maxRecDepth 100000 in
theorem cx_symbol_y (l : Launch) (D : va_G) (cI cL : ClassId) (ad : Nat → Nat) (S K n wc dn : Nat) (w lw sy sb sh rw rk dr : Nat → Nat) (j : Nat) (hV : xq_V S K n wc w lw sy sb sh rw rk) (hj : j < n) : xt_M l yX0_symbol cX0_symbol 2 (some .int) 1 D cI cL [.ref (ad 0), .int (nI j)] (xX ad cI cL S K n wc dn w lw sy sb sh rw rk dr) (xt_Qi D cI cL (xX ad cI cL S K n wc dn w lw sy sb sh rw rk dr) (fun (r : Int32) (u : Unit) => r = nI (sy j)) (fun u => xX ad cI cL S K n wc dn w lw sy sb sh rw rk dr)) := by
  obtain ⟨hS0, hS3, hK0, hK4, hn6, hw, hlw, hsK, hok⟩ := hV
  have hsy : ∀ p, p < n → sy p < 4 := fun p h => Nat.lt_of_lt_of_le (hsK p h) hK4
  refine xt_start (own := RX0) rfl (by decide) (Nat.le_of_ble_eq_true rfl) (fun pg ev ss mi args below meth cd A Q ls C hE hA hl hW => ?_)
  replace hl : lv_has ls 2 [(0, .ref (ad 0)), (1, .int (nI j))] := hl
  refine lv_aload_n C.1 C.2.1 dX0_symbol_0 rfl (lv_at hl 0 rfl) ?_
  refine lv_iload_n C.1 C.2.1 dX0_symbol_1 rfl (lv_at hl 1 rfl) ?_
  refine xt_ci hA hW (xt_runV C hW.1 hW.2.1 cwX0_X0_hasPlace (cx_hasPlace l D cI cL ad S K n wc dn w lw sy sb sh rw rk dr (nI j) (by omega)) rfl rfl rfl hl.1 (rest := []) rfl (Nat.le_of_ble_eq_true rfl) ⟨(Nat.le_of_ble_eq_true rfl), (Nat.le_of_ble_eq_true rfl)⟩ ⟨Nat.zero_le _, Nat.zero_le _⟩ dX0_symbol_2) (fun r2 u H locs hp2 hW => ?_)
  replace hW : xt_W D A ss.heap (xX ad cI cL S K n wc dn w lw sy sb sh rw rk dr) H locs := hW
  replace hp2 : (r2 = nI 1 ∧ ∃ z1, z1 < n ∧ (nI j) = nI z1) ∨ (r2 = nI 0 ∧ ¬ ∃ z1, z1 < n ∧ (nI j) = nI z1) := hp2
  rcases hp2 with ⟨rfl, -⟩ | ⟨-, hno⟩
  · replace hl : lv_has ls 2 [(0, .ref (ad 0)), (1, .int (nI j))] := hl
    refine xt_if_eq C (by omega) dX0_symbol_5 (tgt := 17) (by decide) (fun h5 => ?_) (fun h5 => ?_)
    · exfalso
      omega
    · refine lv_aload_n C.1 C.2.1 dX0_symbol_8 rfl (lv_at hl 0 rfl) ?_
      refine xt_get xt_inX0 C hW 0 rfl rfl 5 (by decide) rfl flX0_seenSymbols rfl dX0_symbol_9 ?_
      refine lv_iload_n C.1 C.2.1 dX0_symbol_12 rfl (lv_at hl 1 rfl) ?_
      refine xt_iald C hW 3 rfl (by decide) dX0_symbol_13 (by omega) ?_
      refine lv_goto C.1 C.2.1 dX0_symbol_14 (tgt := 18) (by decide) ?_
      exact xt_iret C hE () hW (rfl) dX0_symbol_18
  · exact absurd (⟨j, by omega, rfl⟩) hno
set_option maxHeartbeats 4000000 in
set_option maxRecDepth 100000 in
theorem cx_symbol_n (l : Launch) (D : va_G) (cI cL : ClassId) (ad : Nat → Nat) (S K n wc dn : Nat) (w lw sy sb sh rw rk dr : Nat → Nat) (q : Int32) (hV : xq_V S K n wc w lw sy sb sh rw rk) (hno : ¬ ∃ j, j < n ∧ q = nI j) : xt_M l yX0_symbol cX0_symbol 2 (some .int) 1 D cI cL [.ref (ad 0), .int q] (xX ad cI cL S K n wc dn w lw sy sb sh rw rk dr) (xt_Qi D cI cL (xX ad cI cL S K n wc dn w lw sy sb sh rw rk dr) (fun (r : Int32) (u : Unit) => r =  (-1)) (fun u => xX ad cI cL S K n wc dn w lw sy sb sh rw rk dr)) := by
  obtain ⟨hS0, hS3, hK0, hK4, hn6, hw, hlw, hsK, hok⟩ := hV
  have hsy : ∀ p, p < n → sy p < 4 := fun p h => Nat.lt_of_lt_of_le (hsK p h) hK4
  refine xt_start (own := RX0) rfl (by decide) (Nat.le_of_ble_eq_true rfl) (fun pg ev ss mi args below meth cd A Q ls C hE hA hl hW => ?_)
  replace hl : lv_has ls 2 [(0, .ref (ad 0)), (1, .int q)] := hl
  refine lv_aload_n C.1 C.2.1 dX0_symbol_0 rfl (lv_at hl 0 rfl) ?_
  refine lv_iload_n C.1 C.2.1 dX0_symbol_1 rfl (lv_at hl 1 rfl) ?_
  refine xt_ci hA hW (xt_runV C hW.1 hW.2.1 cwX0_X0_hasPlace (cx_hasPlace l D cI cL ad S K n wc dn w lw sy sb sh rw rk dr q (by omega)) rfl rfl rfl hl.1 (rest := []) rfl (Nat.le_of_ble_eq_true rfl) ⟨(Nat.le_of_ble_eq_true rfl), (Nat.le_of_ble_eq_true rfl)⟩ ⟨Nat.zero_le _, Nat.zero_le _⟩ dX0_symbol_2) (fun r2 u H locs hp2 hW => ?_)
  replace hW : xt_W D A ss.heap (xX ad cI cL S K n wc dn w lw sy sb sh rw rk dr) H locs := hW
  replace hp2 : (r2 = nI 1 ∧ ∃ z1, z1 < n ∧ q = nI z1) ∨ (r2 = nI 0 ∧ ¬ ∃ z1, z1 < n ∧ q = nI z1) := hp2
  rcases hp2 with ⟨-, hz⟩ | ⟨rfl, -⟩
  · exact absurd (hz) hno
  · replace hl : lv_has ls 2 [(0, .ref (ad 0)), (1, .int q)] := hl
    refine xt_if_eq C (by omega) dX0_symbol_5 (tgt := 17) (by decide) (fun h5 => ?_) (fun h5 => ?_)
    · refine lv_iconst (v := -1) C.1 C.2.1 dX0_symbol_17 (by decide +kernel) ?_
      exact xt_iret C hE () hW (rfl) dX0_symbol_18
    · exfalso
      omega
set_option maxHeartbeats 4000000 in
set_option maxRecDepth 100000 in
theorem cx_total (l : Launch) (D : va_G) (cI cL : ClassId) (ad : Nat → Nat) (S K n wc dn : Nat) (w lw sy sb sh rw rk dr : Nat → Nat) (hV : xq_V S K n wc w lw sy sb sh rw rk) : xt_M l yX0_total cX0_total 4 (some .long) 1 D cI cL [.ref (ad 0)] (xX ad cI cL S K n wc dn w lw sy sb sh rw rk dr) (xt_Ql D cI cL (xX ad cI cL S K n wc dn w lw sy sb sh rw rk dr) (fun (r : Int64) (u : Unit) => r = lN (ms_sum (fun z1 => ms_wt (xe w sy) S n z1) (S ^ n))) (fun u => xX ad cI cL S K n wc dn w lw sy sb sh rw rk dr)) := by
  obtain ⟨hS0, hS3, hK0, hK4, hn6, hw, hlw, hsK, hok⟩ := hV
  have hsy : ∀ p, p < n → sy p < 4 := fun p h => Nat.lt_of_lt_of_le (hsK p h) hK4
  refine xt_start (own := RX0) rfl (by decide) (Nat.le_of_ble_eq_true rfl) (fun pg ev ss mi args below meth cd A Q ls C hE hA hl hW => ?_)
  replace hl : lv_has ls 4 [(0, .ref (ad 0))] := hl
  refine lv_aload_n C.1 C.2.1 dX0_total_0 rfl (lv_at hl 0 rfl) ?_
  refine xt_get xt_inX0 C hW 0 rfl rfl 4 (by decide) rfl flX0_seenCount rfl dX0_total_1 ?_
  refine xt_if_ne C (by omega) dX0_total_4 (tgt := 9) (by decide) (fun h4 => ?_) (fun h4 => ?_)
  · refine xt_lconst C 0 dX0_total_9 (by decide +kernel) ?_
    refine lv_lstore_n C.1 C.2.1 dX0_total_10 rfl hl (by decide) rfl (fun ls hl => ?_)
    replace hl : lv_has ls 4 [(1, .long (lN 0)), (0, .ref (ad 0))] := hl
    refine xt_iconst C 0 dX0_total_11 (by decide +kernel) ?_
    refine lv_istore_n C.1 C.2.1 dX0_total_12 rfl hl (by decide) rfl (fun ls hl => ?_)
    replace hl : lv_has ls 4 [(3, .int (nI 0)), (1, .long (lN 0)), (0, .ref (ad 0))] := hl
    have lp13 : ∀ (q : Nat) (i : Nat), S - i = q → (i ≤ S) → ∀ (ls : Array Slot) (H : Heap) (locs : List Loc), lv_has ls 4 [(3, .int (nI i)), (1, .long (lN (ms_sum (fun z1 => sb ((n - 1) * 3 + z1)) i))), (0, .ref (ad 0))] → xt_W D A ss.heap (xX ad cI cL S K n wc dn w lw sy sb sh rw rk dr) H locs → W pg l ev (xt_R 1) ss mi args below meth cd H locs 0 0 Q (F0 mi 13 ls []) := by
      intro q
      induction q using Nat.strongRecOn with
      | _ q ih13 =>
        intro i hq13 hi ls H locs hl hW
        refine lv_iload_n C.1 C.2.1 dX0_total_13 rfl (lv_at hl 0 rfl) ?_
        refine lv_aload_n C.1 C.2.1 dX0_total_14 rfl (lv_at hl 2 rfl) ?_
        refine xt_get xt_inX0 C hW 0 rfl rfl 0 (by decide) rfl flX0_stateCount rfl dX0_total_15 ?_
        refine xt_icmp_ge C (by omega) (by omega) dX0_total_18 (tgt := 45) (by decide) (fun h18 => ?_) (fun h18 => ?_)
        · refine lv_lload_n C.1 C.2.1 dX0_total_45 rfl (lv_at hl 1 rfl) ?_
          exact xt_lret C hE () hW (by show lN (ms_sum _ i) = lN _; rw [show i = S by omega, xq_total hok h4]) dX0_total_46
        · refine lv_lload_n C.1 C.2.1 dX0_total_21 rfl (lv_at hl 1 rfl) ?_
          refine lv_aload_n C.1 C.2.1 dX0_total_22 rfl (lv_at hl 2 rfl) ?_
          refine xt_get xt_inX0 C hW 0 rfl rfl 6 (by decide) rfl flX0_sumsBefore rfl dX0_total_23 ?_
          refine lv_aload_n C.1 C.2.1 dX0_total_26 rfl (lv_at hl 2 rfl) ?_
          refine xt_get xt_inX0 C hW 0 rfl rfl 4 (by decide) rfl flX0_seenCount rfl dX0_total_27 ?_
          refine xt_iconst C 1 dX0_total_30 (by decide +kernel) ?_
          refine xt_isub C dX0_total_31 (by omega) ?_
          refine lv_iload_n C.1 C.2.1 dX0_total_32 rfl (lv_at hl 0 rfl) ?_
          refine xt_ci hA hW (xt_runS C hW.1 hW.2.1 cwX0_X0_cell (cx_cell l D cI cL (xX ad cI cL S K n wc dn w lw sy sb sh rw rk dr) (n - 1) i) rfl hl.1 (rest := [.ref (ad 4), .long (lN (ms_sum (fun z1 => sb ((n - 1) * 3 + z1)) i))]) rfl (Nat.le_of_ble_eq_true rfl) ⟨(Nat.le_of_ble_eq_true rfl), (Nat.le_of_ble_eq_true rfl)⟩ ⟨Nat.zero_le _, Nat.zero_le _⟩ dX0_total_33) (fun r33 u H locs hp33 hW => ?_)
          replace hW : xt_W D A ss.heap (xX ad cI cL S K n wc dn w lw sy sb sh rw rk dr) H locs := hW
          subst hp33
          refine xt_lald C hW 4 rfl (by decide) dX0_total_36 (by omega) ?_
          refine xt_ladd C dX0_total_37 ?_
          refine lv_lstore_n C.1 C.2.1 dX0_total_38 rfl hl (by decide) rfl (fun ls hl => ?_)
          replace hl : lv_has ls 4 [(1, .long (lN ((ms_sum (fun z1 => sb ((n - 1) * 3 + z1)) i) + (sb ((n - 1) * 3 + i))))), (3, .int (nI i)), (0, .ref (ad 0))] := hl
          refine W.eq (g2 := F0 mi 39 ls []) rfl ?_
          refine lv_iinc (k := 1) C.1 C.2.1 dX0_total_39 hl rfl xt_inc (by decide) rfl (fun ls hl => ?_)
          replace hl : lv_has ls 4 [(3, .int (nI (i + 1))), (1, .long (lN ((ms_sum (fun z1 => sb ((n - 1) * 3 + z1)) i) + (sb ((n - 1) * 3 + i))))), (0, .ref (ad 0))] := hl
          refine lv_goto C.1 C.2.1 dX0_total_42 (tgt := 13) (by decide) ?_
          exact ih13 _ (by omega) (i + 1) rfl (by omega) ls _ _ (lv_sub hl [0, 1, 2] rfl) hW
    exact lp13 _ 0 rfl (Nat.zero_le _) ls _ _ (lv_sub hl [0, 1, 2] rfl) hW
  · refine xt_lconst C 1 dX0_total_7 (by decide +kernel) ?_
    exact xt_lret C hE () hW (by show lN 1 = lN _; rw [← xq_total0 h4]) dX0_total_8
set_option maxHeartbeats 4000000 in
set_option maxRecDepth 100000 in
theorem cx_before_y (l : Launch) (D : va_G) (cI cL : ClassId) (ad : Nat → Nat) (S K n wc dn : Nat) (w lw sy sb sh rw rk dr : Nat → Nat) (p : Nat) (q : Nat) (hV : xq_V S K n wc w lw sy sb sh rw rk) (hpn : p < n) (hqS : q < S) : xt_M l yX0_before cX0_before 3 (some .long) 1 D cI cL [.ref (ad 0), .int (nI p), .int (nI q)] (xX ad cI cL S K n wc dn w lw sy sb sh rw rk dr) (xt_Ql D cI cL (xX ad cI cL S K n wc dn w lw sy sb sh rw rk dr) (fun (r : Int64) (u : Unit) => r = lN (ms_bf (xe w sy) S p q)) (fun u => xX ad cI cL S K n wc dn w lw sy sb sh rw rk dr)) := by
  obtain ⟨hS0, hS3, hK0, hK4, hn6, hw, hlw, hsK, hok⟩ := hV
  have hsy : ∀ p, p < n → sy p < 4 := fun p h => Nat.lt_of_lt_of_le (hsK p h) hK4
  refine xt_start (own := RX0) rfl (by decide) (Nat.le_of_ble_eq_true rfl) (fun pg ev ss mi args below meth cd A Q ls C hE hA hl hW => ?_)
  replace hl : lv_has ls 3 [(0, .ref (ad 0)), (1, .int (nI p)), (2, .int (nI q))] := hl
  refine lv_aload_n C.1 C.2.1 dX0_before_0 rfl (lv_at hl 0 rfl) ?_
  refine lv_iload_n C.1 C.2.1 dX0_before_1 rfl (lv_at hl 1 rfl) ?_
  refine xt_ci hA hW (xt_runV C hW.1 hW.2.1 cwX0_X0_hasPlace (cx_hasPlace l D cI cL ad S K n wc dn w lw sy sb sh rw rk dr (nI p) (by omega)) rfl rfl rfl hl.1 (rest := []) rfl (Nat.le_of_ble_eq_true rfl) ⟨(Nat.le_of_ble_eq_true rfl), (Nat.le_of_ble_eq_true rfl)⟩ ⟨Nat.zero_le _, Nat.zero_le _⟩ dX0_before_2) (fun r2 u H locs hp2 hW => ?_)
  replace hW : xt_W D A ss.heap (xX ad cI cL S K n wc dn w lw sy sb sh rw rk dr) H locs := hW
  replace hp2 : (r2 = nI 1 ∧ ∃ z1, z1 < n ∧ (nI p) = nI z1) ∨ (r2 = nI 0 ∧ ¬ ∃ z1, z1 < n ∧ (nI p) = nI z1) := hp2
  rcases hp2 with ⟨rfl, -⟩ | ⟨-, hno⟩
  · replace hl : lv_has ls 3 [(0, .ref (ad 0)), (1, .int (nI p)), (2, .int (nI q))] := hl
    refine xt_if_eq C (by omega) dX0_before_5 (tgt := 29) (by decide) (fun h5 => ?_) (fun h5 => ?_)
    · exfalso
      omega
    · refine lv_aload_n C.1 C.2.1 dX0_before_8 rfl (lv_at hl 0 rfl) ?_
      refine lv_iload_n C.1 C.2.1 dX0_before_9 rfl (lv_at hl 2 rfl) ?_
      refine xt_ci hA hW (xt_runV C hW.1 hW.2.1 cwX0_X0_hasState (cx_hasState l D cI cL ad S K n wc dn w lw sy sb sh rw rk dr (nI q) (by omega)) rfl rfl rfl hl.1 (rest := []) rfl (Nat.le_of_ble_eq_true rfl) ⟨(Nat.le_of_ble_eq_true rfl), (Nat.le_of_ble_eq_true rfl)⟩ ⟨Nat.zero_le _, Nat.zero_le _⟩ dX0_before_10) (fun r10 u H locs hp10 hW => ?_)
      replace hW : xt_W D A ss.heap (xX ad cI cL S K n wc dn w lw sy sb sh rw rk dr) H locs := hW
      replace hp10 : (r10 = nI 1 ∧ ∃ z1, z1 < S ∧ (nI q) = nI z1) ∨ (r10 = nI 0 ∧ ¬ ∃ z1, z1 < S ∧ (nI q) = nI z1) := hp10
      rcases hp10 with ⟨rfl, -⟩ | ⟨-, hno⟩
      · replace hl : lv_has ls 3 [(0, .ref (ad 0)), (1, .int (nI p)), (2, .int (nI q))] := hl
        refine xt_if_eq C (by omega) dX0_before_13 (tgt := 29) (by decide) (fun h13 => ?_) (fun h13 => ?_)
        · exfalso
          omega
        · refine lv_aload_n C.1 C.2.1 dX0_before_16 rfl (lv_at hl 0 rfl) ?_
          refine xt_get xt_inX0 C hW 0 rfl rfl 6 (by decide) rfl flX0_sumsBefore rfl dX0_before_17 ?_
          refine lv_iload_n C.1 C.2.1 dX0_before_20 rfl (lv_at hl 1 rfl) ?_
          refine lv_iload_n C.1 C.2.1 dX0_before_21 rfl (lv_at hl 2 rfl) ?_
          refine xt_ci hA hW (xt_runS C hW.1 hW.2.1 cwX0_X0_cell (cx_cell l D cI cL (xX ad cI cL S K n wc dn w lw sy sb sh rw rk dr) p q) rfl hl.1 (rest := [.ref (ad 4)]) rfl (Nat.le_of_ble_eq_true rfl) ⟨(Nat.le_of_ble_eq_true rfl), (Nat.le_of_ble_eq_true rfl)⟩ ⟨Nat.zero_le _, Nat.zero_le _⟩ dX0_before_22) (fun r22 u H locs hp22 hW => ?_)
          replace hW : xt_W D A ss.heap (xX ad cI cL S K n wc dn w lw sy sb sh rw rk dr) H locs := hW
          subst hp22
          refine xt_lald C hW 4 rfl (by decide) dX0_before_25 (by omega) ?_
          refine lv_goto C.1 C.2.1 dX0_before_26 (tgt := 30) (by decide) ?_
          exact xt_lret C hE () hW (by show lN (sb (p * 3 + q)) = lN _; rw [hok.1 p q hpn hqS]) dX0_before_30
      · exact absurd (⟨q, by omega, rfl⟩) hno
  · exact absurd (⟨p, by omega, rfl⟩) hno
set_option maxHeartbeats 4000000 in
set_option maxRecDepth 100000 in
theorem cx_before_n (l : Launch) (D : va_G) (cI cL : ClassId) (ad : Nat → Nat) (S K n wc dn : Nat) (w lw sy sb sh rw rk dr : Nat → Nat) (p : Int32) (q : Int32) (hV : xq_V S K n wc w lw sy sb sh rw rk) (hno : ¬ ((∃ j, j < n ∧ p = nI j) ∧ ∃ j, j < S ∧ q = nI j)) : xt_M l yX0_before cX0_before 3 (some .long) 1 D cI cL [.ref (ad 0), .int p, .int q] (xX ad cI cL S K n wc dn w lw sy sb sh rw rk dr) (xt_Ql D cI cL (xX ad cI cL S K n wc dn w lw sy sb sh rw rk dr) (fun (r : Int64) (u : Unit) => r = lN 0) (fun u => xX ad cI cL S K n wc dn w lw sy sb sh rw rk dr)) := by
  obtain ⟨hS0, hS3, hK0, hK4, hn6, hw, hlw, hsK, hok⟩ := hV
  have hsy : ∀ p, p < n → sy p < 4 := fun p h => Nat.lt_of_lt_of_le (hsK p h) hK4
  refine xt_start (own := RX0) rfl (by decide) (Nat.le_of_ble_eq_true rfl) (fun pg ev ss mi args below meth cd A Q ls C hE hA hl hW => ?_)
  replace hl : lv_has ls 3 [(0, .ref (ad 0)), (1, .int p), (2, .int q)] := hl
  refine lv_aload_n C.1 C.2.1 dX0_before_0 rfl (lv_at hl 0 rfl) ?_
  refine lv_iload_n C.1 C.2.1 dX0_before_1 rfl (lv_at hl 1 rfl) ?_
  refine xt_ci hA hW (xt_runV C hW.1 hW.2.1 cwX0_X0_hasPlace (cx_hasPlace l D cI cL ad S K n wc dn w lw sy sb sh rw rk dr p (by omega)) rfl rfl rfl hl.1 (rest := []) rfl (Nat.le_of_ble_eq_true rfl) ⟨(Nat.le_of_ble_eq_true rfl), (Nat.le_of_ble_eq_true rfl)⟩ ⟨Nat.zero_le _, Nat.zero_le _⟩ dX0_before_2) (fun r2 u H locs hp2 hW => ?_)
  replace hW : xt_W D A ss.heap (xX ad cI cL S K n wc dn w lw sy sb sh rw rk dr) H locs := hW
  replace hp2 : (r2 = nI 1 ∧ ∃ z1, z1 < n ∧ p = nI z1) ∨ (r2 = nI 0 ∧ ¬ ∃ z1, z1 < n ∧ p = nI z1) := hp2
  rcases hp2 with ⟨rfl, hy1⟩ | ⟨rfl, -⟩
  · replace hl : lv_has ls 3 [(0, .ref (ad 0)), (1, .int p), (2, .int q)] := hl
    refine xt_if_eq C (by omega) dX0_before_5 (tgt := 29) (by decide) (fun h5 => ?_) (fun h5 => ?_)
    · exfalso
      omega
    · refine lv_aload_n C.1 C.2.1 dX0_before_8 rfl (lv_at hl 0 rfl) ?_
      refine lv_iload_n C.1 C.2.1 dX0_before_9 rfl (lv_at hl 2 rfl) ?_
      refine xt_ci hA hW (xt_runV C hW.1 hW.2.1 cwX0_X0_hasState (cx_hasState l D cI cL ad S K n wc dn w lw sy sb sh rw rk dr q (by omega)) rfl rfl rfl hl.1 (rest := []) rfl (Nat.le_of_ble_eq_true rfl) ⟨(Nat.le_of_ble_eq_true rfl), (Nat.le_of_ble_eq_true rfl)⟩ ⟨Nat.zero_le _, Nat.zero_le _⟩ dX0_before_10) (fun r10 u H locs hp10 hW => ?_)
      replace hW : xt_W D A ss.heap (xX ad cI cL S K n wc dn w lw sy sb sh rw rk dr) H locs := hW
      replace hp10 : (r10 = nI 1 ∧ ∃ z1, z1 < S ∧ q = nI z1) ∨ (r10 = nI 0 ∧ ¬ ∃ z1, z1 < S ∧ q = nI z1) := hp10
      rcases hp10 with ⟨-, hz⟩ | ⟨rfl, -⟩
      · exact absurd (⟨hy1, hz⟩) hno
      · replace hl : lv_has ls 3 [(0, .ref (ad 0)), (1, .int p), (2, .int q)] := hl
        refine xt_if_eq C (by omega) dX0_before_13 (tgt := 29) (by decide) (fun h13 => ?_) (fun h13 => ?_)
        · refine xt_lconst C 0 dX0_before_29 (by decide +kernel) ?_
          exact xt_lret C hE () hW (rfl) dX0_before_30
        · exfalso
          omega
  · replace hl : lv_has ls 3 [(0, .ref (ad 0)), (1, .int p), (2, .int q)] := hl
    refine xt_if_eq C (by omega) dX0_before_5 (tgt := 29) (by decide) (fun h5 => ?_) (fun h5 => ?_)
    · refine xt_lconst C 0 dX0_before_29 (by decide +kernel) ?_
      exact xt_lret C hE () hW (rfl) dX0_before_30
    · exfalso
      omega
set_option maxHeartbeats 4000000 in
set_option maxRecDepth 100000 in
theorem cx_behind_y (l : Launch) (D : va_G) (cI cL : ClassId) (ad : Nat → Nat) (S K n wc dn : Nat) (w lw sy sb sh rw rk dr : Nat → Nat) (p : Nat) (q : Nat) (hV : xq_V S K n wc w lw sy sb sh rw rk) (hpn : p < n) (hqS : q < S) : xt_M l yX0_behind cX0_behind 3 (some .long) 1 D cI cL [.ref (ad 0), .int (nI p), .int (nI q)] (xX ad cI cL S K n wc dn w lw sy sb sh rw rk dr) (xt_Ql D cI cL (xX ad cI cL S K n wc dn w lw sy sb sh rw rk dr) (fun (r : Int64) (u : Unit) => r = lN (ms_bh (xe w sy) S n (n - 1 - p) q)) (fun u => xX ad cI cL S K n wc dn w lw sy sb sh rw rk dr)) := by
  obtain ⟨hS0, hS3, hK0, hK4, hn6, hw, hlw, hsK, hok⟩ := hV
  have hsy : ∀ p, p < n → sy p < 4 := fun p h => Nat.lt_of_lt_of_le (hsK p h) hK4
  refine xt_start (own := RX0) rfl (by decide) (Nat.le_of_ble_eq_true rfl) (fun pg ev ss mi args below meth cd A Q ls C hE hA hl hW => ?_)
  replace hl : lv_has ls 3 [(0, .ref (ad 0)), (1, .int (nI p)), (2, .int (nI q))] := hl
  refine lv_aload_n C.1 C.2.1 dX0_behind_0 rfl (lv_at hl 0 rfl) ?_
  refine lv_iload_n C.1 C.2.1 dX0_behind_1 rfl (lv_at hl 1 rfl) ?_
  refine xt_ci hA hW (xt_runV C hW.1 hW.2.1 cwX0_X0_hasPlace (cx_hasPlace l D cI cL ad S K n wc dn w lw sy sb sh rw rk dr (nI p) (by omega)) rfl rfl rfl hl.1 (rest := []) rfl (Nat.le_of_ble_eq_true rfl) ⟨(Nat.le_of_ble_eq_true rfl), (Nat.le_of_ble_eq_true rfl)⟩ ⟨Nat.zero_le _, Nat.zero_le _⟩ dX0_behind_2) (fun r2 u H locs hp2 hW => ?_)
  replace hW : xt_W D A ss.heap (xX ad cI cL S K n wc dn w lw sy sb sh rw rk dr) H locs := hW
  replace hp2 : (r2 = nI 1 ∧ ∃ z1, z1 < n ∧ (nI p) = nI z1) ∨ (r2 = nI 0 ∧ ¬ ∃ z1, z1 < n ∧ (nI p) = nI z1) := hp2
  rcases hp2 with ⟨rfl, -⟩ | ⟨-, hno⟩
  · replace hl : lv_has ls 3 [(0, .ref (ad 0)), (1, .int (nI p)), (2, .int (nI q))] := hl
    refine xt_if_eq C (by omega) dX0_behind_5 (tgt := 29) (by decide) (fun h5 => ?_) (fun h5 => ?_)
    · exfalso
      omega
    · refine lv_aload_n C.1 C.2.1 dX0_behind_8 rfl (lv_at hl 0 rfl) ?_
      refine lv_iload_n C.1 C.2.1 dX0_behind_9 rfl (lv_at hl 2 rfl) ?_
      refine xt_ci hA hW (xt_runV C hW.1 hW.2.1 cwX0_X0_hasState (cx_hasState l D cI cL ad S K n wc dn w lw sy sb sh rw rk dr (nI q) (by omega)) rfl rfl rfl hl.1 (rest := []) rfl (Nat.le_of_ble_eq_true rfl) ⟨(Nat.le_of_ble_eq_true rfl), (Nat.le_of_ble_eq_true rfl)⟩ ⟨Nat.zero_le _, Nat.zero_le _⟩ dX0_behind_10) (fun r10 u H locs hp10 hW => ?_)
      replace hW : xt_W D A ss.heap (xX ad cI cL S K n wc dn w lw sy sb sh rw rk dr) H locs := hW
      replace hp10 : (r10 = nI 1 ∧ ∃ z1, z1 < S ∧ (nI q) = nI z1) ∨ (r10 = nI 0 ∧ ¬ ∃ z1, z1 < S ∧ (nI q) = nI z1) := hp10
      rcases hp10 with ⟨rfl, -⟩ | ⟨-, hno⟩
      · replace hl : lv_has ls 3 [(0, .ref (ad 0)), (1, .int (nI p)), (2, .int (nI q))] := hl
        refine xt_if_eq C (by omega) dX0_behind_13 (tgt := 29) (by decide) (fun h13 => ?_) (fun h13 => ?_)
        · exfalso
          omega
        · refine lv_aload_n C.1 C.2.1 dX0_behind_16 rfl (lv_at hl 0 rfl) ?_
          refine xt_get xt_inX0 C hW 0 rfl rfl 7 (by decide) rfl flX0_sumsBehind rfl dX0_behind_17 ?_
          refine lv_iload_n C.1 C.2.1 dX0_behind_20 rfl (lv_at hl 1 rfl) ?_
          refine lv_iload_n C.1 C.2.1 dX0_behind_21 rfl (lv_at hl 2 rfl) ?_
          refine xt_ci hA hW (xt_runS C hW.1 hW.2.1 cwX0_X0_cell (cx_cell l D cI cL (xX ad cI cL S K n wc dn w lw sy sb sh rw rk dr) p q) rfl hl.1 (rest := [.ref (ad 5)]) rfl (Nat.le_of_ble_eq_true rfl) ⟨(Nat.le_of_ble_eq_true rfl), (Nat.le_of_ble_eq_true rfl)⟩ ⟨Nat.zero_le _, Nat.zero_le _⟩ dX0_behind_22) (fun r22 u H locs hp22 hW => ?_)
          replace hW : xt_W D A ss.heap (xX ad cI cL S K n wc dn w lw sy sb sh rw rk dr) H locs := hW
          subst hp22
          refine xt_lald C hW 5 rfl (by decide) dX0_behind_25 (by omega) ?_
          refine lv_goto C.1 C.2.1 dX0_behind_26 (tgt := 30) (by decide) ?_
          exact xt_lret C hE () hW (by show lN (sh (p * 3 + q)) = lN _; rw [hok.2.1 p q hpn hqS]) dX0_behind_30
      · exact absurd (⟨q, by omega, rfl⟩) hno
  · exact absurd (⟨p, by omega, rfl⟩) hno
set_option maxHeartbeats 4000000 in
set_option maxRecDepth 100000 in
theorem cx_behind_n (l : Launch) (D : va_G) (cI cL : ClassId) (ad : Nat → Nat) (S K n wc dn : Nat) (w lw sy sb sh rw rk dr : Nat → Nat) (p : Int32) (q : Int32) (hV : xq_V S K n wc w lw sy sb sh rw rk) (hno : ¬ ((∃ j, j < n ∧ p = nI j) ∧ ∃ j, j < S ∧ q = nI j)) : xt_M l yX0_behind cX0_behind 3 (some .long) 1 D cI cL [.ref (ad 0), .int p, .int q] (xX ad cI cL S K n wc dn w lw sy sb sh rw rk dr) (xt_Ql D cI cL (xX ad cI cL S K n wc dn w lw sy sb sh rw rk dr) (fun (r : Int64) (u : Unit) => r = lN 0) (fun u => xX ad cI cL S K n wc dn w lw sy sb sh rw rk dr)) := by
  obtain ⟨hS0, hS3, hK0, hK4, hn6, hw, hlw, hsK, hok⟩ := hV
  have hsy : ∀ p, p < n → sy p < 4 := fun p h => Nat.lt_of_lt_of_le (hsK p h) hK4
  refine xt_start (own := RX0) rfl (by decide) (Nat.le_of_ble_eq_true rfl) (fun pg ev ss mi args below meth cd A Q ls C hE hA hl hW => ?_)
  replace hl : lv_has ls 3 [(0, .ref (ad 0)), (1, .int p), (2, .int q)] := hl
  refine lv_aload_n C.1 C.2.1 dX0_behind_0 rfl (lv_at hl 0 rfl) ?_
  refine lv_iload_n C.1 C.2.1 dX0_behind_1 rfl (lv_at hl 1 rfl) ?_
  refine xt_ci hA hW (xt_runV C hW.1 hW.2.1 cwX0_X0_hasPlace (cx_hasPlace l D cI cL ad S K n wc dn w lw sy sb sh rw rk dr p (by omega)) rfl rfl rfl hl.1 (rest := []) rfl (Nat.le_of_ble_eq_true rfl) ⟨(Nat.le_of_ble_eq_true rfl), (Nat.le_of_ble_eq_true rfl)⟩ ⟨Nat.zero_le _, Nat.zero_le _⟩ dX0_behind_2) (fun r2 u H locs hp2 hW => ?_)
  replace hW : xt_W D A ss.heap (xX ad cI cL S K n wc dn w lw sy sb sh rw rk dr) H locs := hW
  replace hp2 : (r2 = nI 1 ∧ ∃ z1, z1 < n ∧ p = nI z1) ∨ (r2 = nI 0 ∧ ¬ ∃ z1, z1 < n ∧ p = nI z1) := hp2
  rcases hp2 with ⟨rfl, hy1⟩ | ⟨rfl, -⟩
  · replace hl : lv_has ls 3 [(0, .ref (ad 0)), (1, .int p), (2, .int q)] := hl
    refine xt_if_eq C (by omega) dX0_behind_5 (tgt := 29) (by decide) (fun h5 => ?_) (fun h5 => ?_)
    · exfalso
      omega
    · refine lv_aload_n C.1 C.2.1 dX0_behind_8 rfl (lv_at hl 0 rfl) ?_
      refine lv_iload_n C.1 C.2.1 dX0_behind_9 rfl (lv_at hl 2 rfl) ?_
      refine xt_ci hA hW (xt_runV C hW.1 hW.2.1 cwX0_X0_hasState (cx_hasState l D cI cL ad S K n wc dn w lw sy sb sh rw rk dr q (by omega)) rfl rfl rfl hl.1 (rest := []) rfl (Nat.le_of_ble_eq_true rfl) ⟨(Nat.le_of_ble_eq_true rfl), (Nat.le_of_ble_eq_true rfl)⟩ ⟨Nat.zero_le _, Nat.zero_le _⟩ dX0_behind_10) (fun r10 u H locs hp10 hW => ?_)
      replace hW : xt_W D A ss.heap (xX ad cI cL S K n wc dn w lw sy sb sh rw rk dr) H locs := hW
      replace hp10 : (r10 = nI 1 ∧ ∃ z1, z1 < S ∧ q = nI z1) ∨ (r10 = nI 0 ∧ ¬ ∃ z1, z1 < S ∧ q = nI z1) := hp10
      rcases hp10 with ⟨-, hz⟩ | ⟨rfl, -⟩
      · exact absurd (⟨hy1, hz⟩) hno
      · replace hl : lv_has ls 3 [(0, .ref (ad 0)), (1, .int p), (2, .int q)] := hl
        refine xt_if_eq C (by omega) dX0_behind_13 (tgt := 29) (by decide) (fun h13 => ?_) (fun h13 => ?_)
        · refine xt_lconst C 0 dX0_behind_29 (by decide +kernel) ?_
          exact xt_lret C hE () hW (rfl) dX0_behind_30
        · exfalso
          omega
  · replace hl : lv_has ls 3 [(0, .ref (ad 0)), (1, .int p), (2, .int q)] := hl
    refine xt_if_eq C (by omega) dX0_behind_5 (tgt := 29) (by decide) (fun h5 => ?_) (fun h5 => ?_)
    · refine xt_lconst C 0 dX0_behind_29 (by decide +kernel) ?_
      exact xt_lret C hE () hW (rfl) dX0_behind_30
    · exfalso
      omega
set_option maxHeartbeats 4000000 in
set_option maxRecDepth 100000 in
theorem cx_ways (l : Launch) (D : va_G) (cI cL : ClassId) (ad : Nat → Nat) (S K n wc dn : Nat) (w lw sy sb sh rw rk dr : Nat → Nat) : xt_M l yX0_ways cX0_ways 1 (some .int) 0 D cI cL [.ref (ad 0)] (xX ad cI cL S K n wc dn w lw sy sb sh rw rk dr) (xt_Qi D cI cL (xX ad cI cL S K n wc dn w lw sy sb sh rw rk dr) (fun (r : Int32) (u : Unit) => r = nI wc) (fun u => xX ad cI cL S K n wc dn w lw sy sb sh rw rk dr)) := by
  refine xt_start (own := RX0) rfl (by decide) (Nat.le_of_ble_eq_true rfl) (fun pg ev ss mi args below meth cd A Q ls C hE hA hl hW => ?_)
  replace hl : lv_has ls 1 [(0, .ref (ad 0))] := hl
  refine lv_aload_n C.1 C.2.1 dX0_ways_0 rfl (lv_at hl 0 rfl) ?_
  refine xt_get xt_inX0 C hW 0 rfl rfl 8 (by decide) rfl flX0_wayCount rfl dX0_ways_1 ?_
  exact xt_iret C hE () hW (rfl) dX0_ways_4
set_option maxHeartbeats 4000000 in
set_option maxRecDepth 100000 in
theorem cx_ranked_y (l : Launch) (D : va_G) (cI cL : ClassId) (ad : Nat → Nat) (S K n wc dn : Nat) (w lw sy sb sh rw rk dr : Nat → Nat) (i : Nat) (hV : xq_V S K n wc w lw sy sb sh rw rk) (hi : i < min wc 12) : xt_M l yX0_ranked cX0_ranked 2 (some .long) 1 D cI cL [.ref (ad 0), .int (nI i)] (xX ad cI cL S K n wc dn w lw sy sb sh rw rk dr) (xt_Ql D cI cL (xX ad cI cL S K n wc dn w lw sy sb sh rw rk dr) (fun (r : Int64) (u : Unit) => r = lN (rw i)) (fun u => xX ad cI cL S K n wc dn w lw sy sb sh rw rk dr)) := by
  obtain ⟨hS0, hS3, hK0, hK4, hn6, hw, hlw, hsK, hok⟩ := hV
  have hsy : ∀ p, p < n → sy p < 4 := fun p h => Nat.lt_of_lt_of_le (hsK p h) hK4
  have hwc := xq_wc hok hS3 hn6
  refine xt_start (own := RX0) rfl (by decide) (Nat.le_of_ble_eq_true rfl) (fun pg ev ss mi args below meth cd A Q ls C hE hA hl hW => ?_)
  replace hl : lv_has ls 2 [(0, .ref (ad 0)), (1, .int (nI i))] := hl
  refine lv_aload_n C.1 C.2.1 dX0_ranked_0 rfl (lv_at hl 0 rfl) ?_
  refine lv_iload_n C.1 C.2.1 dX0_ranked_1 rfl (lv_at hl 1 rfl) ?_
  refine xt_ci hA hW (xt_runV C hW.1 hW.2.1 cwX0_X0_hasRank (cx_hasRank l D cI cL ad S K n wc dn w lw sy sb sh rw rk dr (nI i) (by omega)) rfl rfl rfl hl.1 (rest := []) rfl (Nat.le_of_ble_eq_true rfl) ⟨(Nat.le_of_ble_eq_true rfl), (Nat.le_of_ble_eq_true rfl)⟩ ⟨Nat.zero_le _, Nat.zero_le _⟩ dX0_ranked_2) (fun r2 u H locs hp2 hW => ?_)
  replace hW : xt_W D A ss.heap (xX ad cI cL S K n wc dn w lw sy sb sh rw rk dr) H locs := hW
  replace hp2 : (r2 = nI 1 ∧ ∃ z1, z1 < min wc 12 ∧ (nI i) = nI z1) ∨ (r2 = nI 0 ∧ ¬ ∃ z1, z1 < min wc 12 ∧ (nI i) = nI z1) := hp2
  rcases hp2 with ⟨rfl, -⟩ | ⟨-, hno⟩
  · replace hl : lv_has ls 2 [(0, .ref (ad 0)), (1, .int (nI i))] := hl
    refine xt_if_eq C (by omega) dX0_ranked_5 (tgt := 17) (by decide) (fun h5 => ?_) (fun h5 => ?_)
    · exfalso
      omega
    · refine lv_aload_n C.1 C.2.1 dX0_ranked_8 rfl (lv_at hl 0 rfl) ?_
      refine xt_get xt_inX0 C hW 0 rfl rfl 9 (by decide) rfl flX0_rankedWeights rfl dX0_ranked_9 ?_
      refine lv_iload_n C.1 C.2.1 dX0_ranked_12 rfl (lv_at hl 1 rfl) ?_
      refine xt_lald C hW 6 rfl (by decide) dX0_ranked_13 (by omega) ?_
      refine lv_goto C.1 C.2.1 dX0_ranked_14 (tgt := 18) (by decide) ?_
      exact xt_lret C hE () hW (rfl) dX0_ranked_18
  · exact absurd (⟨i, by omega, rfl⟩) hno
set_option maxHeartbeats 4000000 in
set_option maxRecDepth 100000 in
theorem cx_ranked_n (l : Launch) (D : va_G) (cI cL : ClassId) (ad : Nat → Nat) (S K n wc dn : Nat) (w lw sy sb sh rw rk dr : Nat → Nat) (q : Int32) (hV : xq_V S K n wc w lw sy sb sh rw rk) (hno : ¬ ∃ j, j < min wc 12 ∧ q = nI j) : xt_M l yX0_ranked cX0_ranked 2 (some .long) 1 D cI cL [.ref (ad 0), .int q] (xX ad cI cL S K n wc dn w lw sy sb sh rw rk dr) (xt_Ql D cI cL (xX ad cI cL S K n wc dn w lw sy sb sh rw rk dr) (fun (r : Int64) (u : Unit) => r = lN 0) (fun u => xX ad cI cL S K n wc dn w lw sy sb sh rw rk dr)) := by
  obtain ⟨hS0, hS3, hK0, hK4, hn6, hw, hlw, hsK, hok⟩ := hV
  have hsy : ∀ p, p < n → sy p < 4 := fun p h => Nat.lt_of_lt_of_le (hsK p h) hK4
  have hwc := xq_wc hok hS3 hn6
  refine xt_start (own := RX0) rfl (by decide) (Nat.le_of_ble_eq_true rfl) (fun pg ev ss mi args below meth cd A Q ls C hE hA hl hW => ?_)
  replace hl : lv_has ls 2 [(0, .ref (ad 0)), (1, .int q)] := hl
  refine lv_aload_n C.1 C.2.1 dX0_ranked_0 rfl (lv_at hl 0 rfl) ?_
  refine lv_iload_n C.1 C.2.1 dX0_ranked_1 rfl (lv_at hl 1 rfl) ?_
  refine xt_ci hA hW (xt_runV C hW.1 hW.2.1 cwX0_X0_hasRank (cx_hasRank l D cI cL ad S K n wc dn w lw sy sb sh rw rk dr q (by omega)) rfl rfl rfl hl.1 (rest := []) rfl (Nat.le_of_ble_eq_true rfl) ⟨(Nat.le_of_ble_eq_true rfl), (Nat.le_of_ble_eq_true rfl)⟩ ⟨Nat.zero_le _, Nat.zero_le _⟩ dX0_ranked_2) (fun r2 u H locs hp2 hW => ?_)
  replace hW : xt_W D A ss.heap (xX ad cI cL S K n wc dn w lw sy sb sh rw rk dr) H locs := hW
  replace hp2 : (r2 = nI 1 ∧ ∃ z1, z1 < min wc 12 ∧ q = nI z1) ∨ (r2 = nI 0 ∧ ¬ ∃ z1, z1 < min wc 12 ∧ q = nI z1) := hp2
  rcases hp2 with ⟨-, hz⟩ | ⟨rfl, -⟩
  · exact absurd (hz) hno
  · replace hl : lv_has ls 2 [(0, .ref (ad 0)), (1, .int q)] := hl
    refine xt_if_eq C (by omega) dX0_ranked_5 (tgt := 17) (by decide) (fun h5 => ?_) (fun h5 => ?_)
    · refine xt_lconst C 0 dX0_ranked_17 (by decide +kernel) ?_
      exact xt_lret C hE () hW (rfl) dX0_ranked_18
    · exfalso
      omega
set_option maxHeartbeats 4000000 in
set_option maxRecDepth 100000 in
theorem cx_stateOf_y (l : Launch) (D : va_G) (cI cL : ClassId) (ad : Nat → Nat) (S K n wc dn : Nat) (w lw sy sb sh rw rk dr : Nat → Nat) (i : Nat) (p : Nat) (hV : xq_V S K n wc w lw sy sb sh rw rk) (hi : i < min wc 12) (hpn : p < n) : xt_M l yX0_stateOf cX0_stateOf 3 (some .int) 1 D cI cL [.ref (ad 0), .int (nI i), .int (nI p)] (xX ad cI cL S K n wc dn w lw sy sb sh rw rk dr) (xt_Qi D cI cL (xX ad cI cL S K n wc dn w lw sy sb sh rw rk dr) (fun (r : Int32) (u : Unit) => r = nI (rk i / 2 ^ (2 * (n - 1 - p)) % 4)) (fun u => xX ad cI cL S K n wc dn w lw sy sb sh rw rk dr)) := by
  obtain ⟨hS0, hS3, hK0, hK4, hn6, hw, hlw, hsK, hok⟩ := hV
  have hsy : ∀ p, p < n → sy p < 4 := fun p h => Nat.lt_of_lt_of_le (hsK p h) hK4
  have hwc := xq_wc hok hS3 hn6
  have hrb := xq_rkb hok hS0 hS3 hn6 hi
  refine xt_start (own := RX0) rfl (by decide) (Nat.le_of_ble_eq_true rfl) (fun pg ev ss mi args below meth cd A Q ls C hE hA hl hW => ?_)
  replace hl : lv_has ls 3 [(0, .ref (ad 0)), (1, .int (nI i)), (2, .int (nI p))] := hl
  refine lv_aload_n C.1 C.2.1 dX0_stateOf_0 rfl (lv_at hl 0 rfl) ?_
  refine lv_iload_n C.1 C.2.1 dX0_stateOf_1 rfl (lv_at hl 1 rfl) ?_
  refine xt_ci hA hW (xt_runV C hW.1 hW.2.1 cwX0_X0_hasRank (cx_hasRank l D cI cL ad S K n wc dn w lw sy sb sh rw rk dr (nI i) (by omega)) rfl rfl rfl hl.1 (rest := []) rfl (Nat.le_of_ble_eq_true rfl) ⟨(Nat.le_of_ble_eq_true rfl), (Nat.le_of_ble_eq_true rfl)⟩ ⟨Nat.zero_le _, Nat.zero_le _⟩ dX0_stateOf_2) (fun r2 u H locs hp2 hW => ?_)
  replace hW : xt_W D A ss.heap (xX ad cI cL S K n wc dn w lw sy sb sh rw rk dr) H locs := hW
  replace hp2 : (r2 = nI 1 ∧ ∃ z1, z1 < min wc 12 ∧ (nI i) = nI z1) ∨ (r2 = nI 0 ∧ ¬ ∃ z1, z1 < min wc 12 ∧ (nI i) = nI z1) := hp2
  rcases hp2 with ⟨rfl, -⟩ | ⟨-, hno⟩
  · replace hl : lv_has ls 3 [(0, .ref (ad 0)), (1, .int (nI i)), (2, .int (nI p))] := hl
    refine xt_if_eq C (by omega) dX0_stateOf_5 (tgt := 16) (by decide) (fun h5 => ?_) (fun h5 => ?_)
    · exfalso
      omega
    · refine lv_aload_n C.1 C.2.1 dX0_stateOf_8 rfl (lv_at hl 0 rfl) ?_
      refine lv_iload_n C.1 C.2.1 dX0_stateOf_9 rfl (lv_at hl 2 rfl) ?_
      refine xt_ci hA hW (xt_runV C hW.1 hW.2.1 cwX0_X0_hasPlace (cx_hasPlace l D cI cL ad S K n wc dn w lw sy sb sh rw rk dr (nI p) (by omega)) rfl rfl rfl hl.1 (rest := []) rfl (Nat.le_of_ble_eq_true rfl) ⟨(Nat.le_of_ble_eq_true rfl), (Nat.le_of_ble_eq_true rfl)⟩ ⟨Nat.zero_le _, Nat.zero_le _⟩ dX0_stateOf_10) (fun r10 u H locs hp10 hW => ?_)
      replace hW : xt_W D A ss.heap (xX ad cI cL S K n wc dn w lw sy sb sh rw rk dr) H locs := hW
      replace hp10 : (r10 = nI 1 ∧ ∃ z1, z1 < n ∧ (nI p) = nI z1) ∨ (r10 = nI 0 ∧ ¬ ∃ z1, z1 < n ∧ (nI p) = nI z1) := hp10
      rcases hp10 with ⟨rfl, -⟩ | ⟨-, hno⟩
      · replace hl : lv_has ls 3 [(0, .ref (ad 0)), (1, .int (nI i)), (2, .int (nI p))] := hl
        refine xt_if_ne C (by omega) dX0_stateOf_13 (tgt := 18) (by decide) (fun h13 => ?_) (fun h13 => ?_)
        · refine lv_aload_n C.1 C.2.1 dX0_stateOf_18 rfl (lv_at hl 0 rfl) ?_
          refine xt_get xt_inX0 C hW 0 rfl rfl 10 (by decide) rfl flX0_rankedWays rfl dX0_stateOf_19 ?_
          refine lv_iload_n C.1 C.2.1 dX0_stateOf_22 rfl (lv_at hl 1 rfl) ?_
          refine xt_iald C hW 7 rfl (by decide) dX0_stateOf_23 (by omega) ?_
          refine xt_iconst C 2 dX0_stateOf_24 (by decide +kernel) ?_
          refine lv_aload_n C.1 C.2.1 dX0_stateOf_25 rfl (lv_at hl 0 rfl) ?_
          refine xt_get xt_inX0 C hW 0 rfl rfl 4 (by decide) rfl flX0_seenCount rfl dX0_stateOf_26 ?_
          refine xt_iconst C 1 dX0_stateOf_29 (by decide +kernel) ?_
          refine xt_isub C dX0_stateOf_30 (by omega) ?_
          refine lv_iload_n C.1 C.2.1 dX0_stateOf_31 rfl (lv_at hl 2 rfl) ?_
          refine xt_isub C dX0_stateOf_32 (by omega) ?_
          refine xt_imul C dX0_stateOf_33 ?_
          refine W.eq (g2 := F0 mi 34 ls [.int (nI (2 * ((n - 1) - p))), .int (nI (rk i))]) rfl ?_
          refine xt_ishr C dX0_stateOf_34 (by omega) (by omega) ?_
          refine xt_iconst C 3 dX0_stateOf_35 (by decide +kernel) ?_
          refine xt_and3 C dX0_stateOf_36 (Nat.lt_of_le_of_lt (Nat.div_le_self _ _) (by omega)) ?_
          exact xt_iret C hE () hW (rfl) dX0_stateOf_37
        · exfalso
          omega
      · exact absurd (⟨p, by omega, rfl⟩) hno
  · exact absurd (⟨i, by omega, rfl⟩) hno
set_option maxHeartbeats 4000000 in
set_option maxRecDepth 100000 in
theorem cx_stateOf_n (l : Launch) (D : va_G) (cI cL : ClassId) (ad : Nat → Nat) (S K n wc dn : Nat) (w lw sy sb sh rw rk dr : Nat → Nat) (p : Int32) (q : Int32) (hV : xq_V S K n wc w lw sy sb sh rw rk) (hno : ¬ ((∃ j, j < min wc 12 ∧ p = nI j) ∧ ∃ j, j < n ∧ q = nI j)) : xt_M l yX0_stateOf cX0_stateOf 3 (some .int) 1 D cI cL [.ref (ad 0), .int p, .int q] (xX ad cI cL S K n wc dn w lw sy sb sh rw rk dr) (xt_Qi D cI cL (xX ad cI cL S K n wc dn w lw sy sb sh rw rk dr) (fun (r : Int32) (u : Unit) => r =  (-1)) (fun u => xX ad cI cL S K n wc dn w lw sy sb sh rw rk dr)) := by
  obtain ⟨hS0, hS3, hK0, hK4, hn6, hw, hlw, hsK, hok⟩ := hV
  have hsy : ∀ p, p < n → sy p < 4 := fun p h => Nat.lt_of_lt_of_le (hsK p h) hK4
  have hwc := xq_wc hok hS3 hn6
  refine xt_start (own := RX0) rfl (by decide) (Nat.le_of_ble_eq_true rfl) (fun pg ev ss mi args below meth cd A Q ls C hE hA hl hW => ?_)
  replace hl : lv_has ls 3 [(0, .ref (ad 0)), (1, .int p), (2, .int q)] := hl
  refine lv_aload_n C.1 C.2.1 dX0_stateOf_0 rfl (lv_at hl 0 rfl) ?_
  refine lv_iload_n C.1 C.2.1 dX0_stateOf_1 rfl (lv_at hl 1 rfl) ?_
  refine xt_ci hA hW (xt_runV C hW.1 hW.2.1 cwX0_X0_hasRank (cx_hasRank l D cI cL ad S K n wc dn w lw sy sb sh rw rk dr p (by omega)) rfl rfl rfl hl.1 (rest := []) rfl (Nat.le_of_ble_eq_true rfl) ⟨(Nat.le_of_ble_eq_true rfl), (Nat.le_of_ble_eq_true rfl)⟩ ⟨Nat.zero_le _, Nat.zero_le _⟩ dX0_stateOf_2) (fun r2 u H locs hp2 hW => ?_)
  replace hW : xt_W D A ss.heap (xX ad cI cL S K n wc dn w lw sy sb sh rw rk dr) H locs := hW
  replace hp2 : (r2 = nI 1 ∧ ∃ z1, z1 < min wc 12 ∧ p = nI z1) ∨ (r2 = nI 0 ∧ ¬ ∃ z1, z1 < min wc 12 ∧ p = nI z1) := hp2
  rcases hp2 with ⟨rfl, hy1⟩ | ⟨rfl, -⟩
  · replace hl : lv_has ls 3 [(0, .ref (ad 0)), (1, .int p), (2, .int q)] := hl
    refine xt_if_eq C (by omega) dX0_stateOf_5 (tgt := 16) (by decide) (fun h5 => ?_) (fun h5 => ?_)
    · exfalso
      omega
    · refine lv_aload_n C.1 C.2.1 dX0_stateOf_8 rfl (lv_at hl 0 rfl) ?_
      refine lv_iload_n C.1 C.2.1 dX0_stateOf_9 rfl (lv_at hl 2 rfl) ?_
      refine xt_ci hA hW (xt_runV C hW.1 hW.2.1 cwX0_X0_hasPlace (cx_hasPlace l D cI cL ad S K n wc dn w lw sy sb sh rw rk dr q (by omega)) rfl rfl rfl hl.1 (rest := []) rfl (Nat.le_of_ble_eq_true rfl) ⟨(Nat.le_of_ble_eq_true rfl), (Nat.le_of_ble_eq_true rfl)⟩ ⟨Nat.zero_le _, Nat.zero_le _⟩ dX0_stateOf_10) (fun r10 u H locs hp10 hW => ?_)
      replace hW : xt_W D A ss.heap (xX ad cI cL S K n wc dn w lw sy sb sh rw rk dr) H locs := hW
      replace hp10 : (r10 = nI 1 ∧ ∃ z1, z1 < n ∧ q = nI z1) ∨ (r10 = nI 0 ∧ ¬ ∃ z1, z1 < n ∧ q = nI z1) := hp10
      rcases hp10 with ⟨-, hz⟩ | ⟨rfl, -⟩
      · exact absurd (⟨hy1, hz⟩) hno
      · replace hl : lv_has ls 3 [(0, .ref (ad 0)), (1, .int p), (2, .int q)] := hl
        refine xt_if_ne C (by omega) dX0_stateOf_13 (tgt := 18) (by decide) (fun h13 => ?_) (fun h13 => ?_)
        · exfalso
          omega
        · refine lv_iconst (v := -1) C.1 C.2.1 dX0_stateOf_16 (by decide +kernel) ?_
          exact xt_iret C hE () hW (rfl) dX0_stateOf_17
  · replace hl : lv_has ls 3 [(0, .ref (ad 0)), (1, .int p), (2, .int q)] := hl
    refine xt_if_eq C (by omega) dX0_stateOf_5 (tgt := 16) (by decide) (fun h5 => ?_) (fun h5 => ?_)
    · refine lv_iconst (v := -1) C.1 C.2.1 dX0_stateOf_16 (by decide +kernel) ?_
      exact xt_iret C hE () hW (rfl) dX0_stateOf_17
    · exfalso
      omega
set_option maxHeartbeats 4000000 in
set_option maxRecDepth 100000 in
theorem cx_drawn_y (l : Launch) (D : va_G) (cI cL : ClassId) (ad : Nat → Nat) (S K n wc dn : Nat) (w lw sy sb sh rw rk dr : Nat → Nat) (j : Nat) (hd6 : dn ≤ 6) (hj : j < dn) : xt_M l yX0_drawn cX0_drawn 2 (some .int) 0 D cI cL [.ref (ad 0), .int (nI j)] (xX ad cI cL S K n wc dn w lw sy sb sh rw rk dr) (xt_Qi D cI cL (xX ad cI cL S K n wc dn w lw sy sb sh rw rk dr) (fun (r : Int32) (u : Unit) => r = nI (dr j)) (fun u => xX ad cI cL S K n wc dn w lw sy sb sh rw rk dr)) := by
  refine xt_start (own := RX0) rfl (by decide) (Nat.le_of_ble_eq_true rfl) (fun pg ev ss mi args below meth cd A Q ls C hE hA hl hW => ?_)
  replace hl : lv_has ls 2 [(0, .ref (ad 0)), (1, .int (nI j))] := hl
  refine lv_iload_n C.1 C.2.1 dX0_drawn_0 rfl (lv_at hl 1 rfl) ?_
  refine xt_if_lt C (by omega) dX0_drawn_1 (tgt := 21) (by decide) ?_
  refine lv_iload_n C.1 C.2.1 dX0_drawn_4 rfl (lv_at hl 1 rfl) ?_
  refine lv_aload_n C.1 C.2.1 dX0_drawn_5 rfl (lv_at hl 0 rfl) ?_
  refine xt_get xt_inX0 C hW 0 rfl rfl 11 (by decide) rfl flX0_drawnCount rfl dX0_drawn_6 ?_
  refine xt_icmp_ge C (by omega) (by omega) dX0_drawn_9 (tgt := 21) (by decide) (fun h9 => ?_) (fun h9 => ?_)
  · exfalso
    omega
  · refine lv_aload_n C.1 C.2.1 dX0_drawn_12 rfl (lv_at hl 0 rfl) ?_
    refine xt_get xt_inX0 C hW 0 rfl rfl 12 (by decide) rfl flX0_drawnStates rfl dX0_drawn_13 ?_
    refine lv_iload_n C.1 C.2.1 dX0_drawn_16 rfl (lv_at hl 1 rfl) ?_
    refine xt_iald C hW 8 rfl (by decide) dX0_drawn_17 (by omega) ?_
    refine lv_goto C.1 C.2.1 dX0_drawn_18 (tgt := 22) (by decide) ?_
    exact xt_iret C hE () hW (rfl) dX0_drawn_22
set_option maxHeartbeats 4000000 in
set_option maxRecDepth 100000 in
theorem cx_drawn_n (l : Launch) (D : va_G) (cI cL : ClassId) (ad : Nat → Nat) (S K n wc dn : Nat) (w lw sy sb sh rw rk dr : Nat → Nat) (q : Int32) (hd6 : dn ≤ 6) (hno : ¬ ∃ j, j < dn ∧ q = nI j) : xt_M l yX0_drawn cX0_drawn 2 (some .int) 0 D cI cL [.ref (ad 0), .int q] (xX ad cI cL S K n wc dn w lw sy sb sh rw rk dr) (xt_Qi D cI cL (xX ad cI cL S K n wc dn w lw sy sb sh rw rk dr) (fun (r : Int32) (u : Unit) => r =  (-1)) (fun u => xX ad cI cL S K n wc dn w lw sy sb sh rw rk dr)) := by
  refine xt_start (own := RX0) rfl (by decide) (Nat.le_of_ble_eq_true rfl) (fun pg ev ss mi args below meth cd A Q ls C hE hA hl hW => ?_)
  replace hl : lv_has ls 2 [(0, .ref (ad 0)), (1, .int q)] := hl
  refine lv_iload_n C.1 C.2.1 dX0_drawn_0 rfl (lv_at hl 1 rfl) ?_
  refine lv_if_lt C.1 C.2.1 dX0_drawn_1 (tgt := 21) (by decide) (fun h1 => ?_) (fun h1 => ?_)
  · refine lv_iconst (v := -1) C.1 C.2.1 dX0_drawn_21 (by decide +kernel) ?_
    exact xt_iret C hE () hW (rfl) dX0_drawn_22
  · refine lv_iload_n C.1 C.2.1 dX0_drawn_4 rfl (lv_at hl 1 rfl) ?_
    refine lv_aload_n C.1 C.2.1 dX0_drawn_5 rfl (lv_at hl 0 rfl) ?_
    refine xt_get xt_inX0 C hW 0 rfl rfl 11 (by decide) rfl flX0_drawnCount rfl dX0_drawn_6 ?_
    refine lv_icmp_ge C.1 C.2.1 dX0_drawn_9 (tgt := 21) (by decide) (fun h9 => ?_) (fun h9 => ?_)
    · refine lv_iconst (v := -1) C.1 C.2.1 dX0_drawn_21 (by decide +kernel) ?_
      exact xt_iret C hE () hW (rfl) dX0_drawn_22
    · exfalso
      exact hno (xq_yes (by omega) h1 h9)
