/-! the class and the reference side by side -/
def rl_R (S K n wc dn : Nat) (w lw sy sb sh rw rk dr : Nat → Nat) (iz dz : Nat) (wm ro ch : Nat → Nat) : Prop :=
  xq_V S K n wc w lw sy sb sh rw rk ∧ mq_V S K n wm ro ∧ (∀ a b c, xq_kr S K a b c → w ((a * 3 + b) * 4 + c) = wm (mq_sl a b c)) ∧ (∀ p, p < n → sy p = ro p) ∧ (dn ≤ 6 ∧ dz ≤ 6) ∧ ((iz = 1 ∧ dz = dn ∧ ∀ q, q < dn → dr q = ch q) ∨ (iz = 0 ∧ dn = 0))
theorem rl_e {S K n : Nat} {w sy wm ro : Nat → Nat} (hK : ∀ p, p < n → sy p < K) (hw : ∀ a b c, xq_kr S K a b c → w ((a * 3 + b) * 4 + c) = wm (mq_sl a b c)) (hs : ∀ p, p < n → sy p = ro p) : ∀ p s t, p < n → s < S → t < S → xe w sy p s t = me wm ro p s t := by
  intro p s t hp h1 h2
  unfold xe me
  have e1 : w ((2 * 3 + t) * 4 + sy p) = wm (12 + 4 * t + ro p) := by
    rw [hw 2 t (sy p) (Or.inr (Or.inr ⟨rfl, h2, hK p hp⟩)), hs p hp]
    rfl
  rw [e1]
  congr 1
  by_cases h0 : p = 0
  · rw [if_pos h0, if_pos h0]
    exact hw 0 0 t (Or.inl ⟨rfl, rfl, h2⟩)
  · rw [if_neg h0, if_neg h0]
    exact hw 1 s t (Or.inr (Or.inl ⟨rfl, h1, h2⟩))
theorem rl_we {S n : Nat} {w sy wm ro : Nat → Nat} (hS0 : 0 < S) (he : ∀ p s t, p < n → s < S → t < S → xe w sy p s t = me wm ro p s t) : ms_wt (xe w sy) S n = ms_wt (me wm ro) S n := funext (fun _ => ms_wt_congr hS0 he)
theorem rl_tot {S n : Nat} {w sy wm ro : Nat → Nat} (hS0 : 0 < S) (he : ∀ p s t, p < n → s < S → t < S → xe w sy p s t = me wm ro p s t) (m : Nat) : ms_sum (fun z1 => ms_wt (xe w sy) S n z1) m = ms_sum (fun z1 => ms_wt (me wm ro) S n z1) m :=
  ms_sum_congr (fun _ _ => ms_wt_congr hS0 he)
theorem rl_in {S n : Nat} {sy ro : Nat → Nat} {a b c k p : Nat} (h : sy p = ro p) : ms_id S n sy a b c k p = ms_id S n ro a b c k p := by
  unfold ms_id ms_in
  rw [h]
theorem rl_tm {S n : Nat} {sy ro : Nat → Nat} {a b c k : Nat} (h : ∀ p, p < n → sy p = ro p) : ms_tm S n sy a b c k = ms_tm S n ro a b c k :=
  ms_sum_congr (fun p hp => rl_in (h p hp))
theorem rl_un {S K n : Nat} {w sy wm ro : Nat → Nat} {a b c : Nat} (hS0 : 0 < S) (he : ∀ p s t, p < n → s < S → t < S → xe w sy p s t = me wm ro p s t) (hs : ∀ p, p < n → sy p = ro p) (h : xq_ku S K a b c) : ms_un (xe w sy) S n sy a b c = mq_un S n wm ro a b c := by
  have key : ms_sum (fun k => ms_wt (xe w sy) S n k * ms_tm S n sy a b c k) (S ^ n) = ms_un (xe w sy) S n sy a b c := by
    rcases h with ⟨rfl, h1, h2⟩ | ⟨rfl, h1, h2⟩ | ⟨rfl, h1, h2⟩
    · exact ms_un_0 (xe_0 w sy) sy h2
    · exact ms_un_1 (xe_0 w sy) sy h1 h2
    · exact ms_un_2 (xe_0 w sy) sy h1
  rw [← key]
  exact ms_sum_congr (fun k _ => by rw [rl_we hS0 he, rl_tm hs])
theorem rl_ru {S K n : Nat} {w sy wm ro : Nat → Nat} {a b : Nat} (hS0 : 0 < S) (he : ∀ p s t, p < n → s < S → t < S → xe w sy p s t = me wm ro p s t) (hs : ∀ p, p < n → sy p = ro p) (ha : a < 3) (hb : b < xq_rw S a) : xq_ru S K n w sy a b = mq_ru S K n wm ro a b :=
  ms_sum_congr (fun _ hc => rl_un hS0 he hs (xq_kur (xq_krc ha hb hc)))
theorem rl_rt {S K : Nat} {w wm : Nat → Nat} {a b : Nat} (hw : ∀ a b c, xq_kr S K a b c → w ((a * 3 + b) * 4 + c) = wm (mq_sl a b c)) (ha : a < 3) (hb : b < xq_rw S a) : xq_rt S K w a b = mq_rt S K wm a b :=
  ms_sum_congr (fun _ hc => hw _ _ _ (xq_krc ha hb hc))
theorem rl_po {S K n : Nat} {w sy wm ro : Nat → Nat} {a b c : Nat} (hS0 : 0 < S) (he : ∀ p s t, p < n → s < S → t < S → xe w sy p s t = me wm ro p s t) (hs : ∀ p, p < n → sy p = ro p) (hw : ∀ a b c, xq_kr S K a b c → w ((a * 3 + b) * 4 + c) = wm (mq_sl a b c)) (hk : xq_kr S K a b c) : xq_po S K n w sy a b c = mq_po S K n wm ro a b c := by
  obtain ⟨ha, hb, hc⟩ := xq_kcr hk
  unfold xq_po mq_po
  rw [rl_ru hS0 he hs ha hb, rl_un hS0 he hs (xq_kur hk), hw a b c hk]
theorem rl_wh {S K n : Nat} {w sy wm ro : Nat → Nat} {a b : Nat} (hS0 : 0 < S) (he : ∀ p s t, p < n → s < S → t < S → xe w sy p s t = me wm ro p s t) (hs : ∀ p, p < n → sy p = ro p) (hw : ∀ a b c, xq_kr S K a b c → w ((a * 3 + b) * 4 + c) = wm (mq_sl a b c)) (ha : a < 3) (hb : b < xq_rw S a) : xq_wh S K n w sy a b = mq_wh S K n wm ro a b := by
  unfold xq_wh mq_wh
  rw [rl_ru hS0 he hs ha hb, rl_rt hw ha hb]
theorem rl_near {x y : Nat} (h : x ≤ y) : (if y = 0 then 0 else (2 * (9 * x) + y) / (2 * y)) = (18 * xq_top x y + xq_bot x y) / (2 * xq_bot x y) := by
  by_cases hy : y = 0
  · have hx : x = 0 := by omega
    rw [if_pos hy, xq_top0 _ hx, xq_bot0 _ hx]
  · rw [if_neg hy]
    by_cases hx : x = 0
    · rw [xq_top0 _ hx, xq_bot0 _ hx, hx]
      rw [Nat.div_eq_of_lt (by omega)]
    · rw [xq_top1 _ hx, xq_bot1 _ hx]
      exact ms_near (xq_gcdp hx) (Nat.mul_div_cancel' (Nat.gcd_dvd_left x y)).symm (Nat.mul_div_cancel' (Nat.gcd_dvd_right x y)).symm
theorem rl_lv {S K n : Nat} {w sy wm ro : Nat → Nat} {a b c : Nat} (hS0 : 0 < S) (he : ∀ p s t, p < n → s < S → t < S → xe w sy p s t = me wm ro p s t) (hs : ∀ p, p < n → sy p = ro p) (hw : ∀ a b c, xq_kr S K a b c → w ((a * 3 + b) * 4 + c) = wm (mq_sl a b c)) (hk : xq_kr S K a b c) : xq_lv S K n w sy a b c = mq_lv S K n wm ro a b c := by
  obtain ⟨ha, hb, hc⟩ := xq_kcr hk
  have h1 := xq_pow (S := S) (K := K) (n := n) (w := w) (sy := sy) (a := a) (b := b) hc
  unfold xq_lv mq_lv
  rw [rl_near h1, rl_po hS0 he hs hw hk, rl_wh hS0 he hs hw ha hb]
theorem rl_lsm {S K n : Nat} {w sy wm ro : Nat → Nat} (hS0 : 0 < S) (he : ∀ p s t, p < n → s < S → t < S → xe w sy p s t = me wm ro p s t) (hs : ∀ p, p < n → sy p = ro p) (hw : ∀ a b c, xq_kr S K a b c → w ((a * 3 + b) * 4 + c) = wm (mq_sl a b c)) : xq_lsm S K n w sy = mq_lsm S K n wm ro :=
  ms_sum_congr (fun _ ha => ms_sum_congr (fun _ hb => ms_sum_congr (fun _ hc => rl_lv hS0 he hs hw (xq_krc ha hb hc))))
theorem rl_st {S n r k p : Nat} (hS0 : 0 < S) (hS3 : S ≤ 3) (hp : p < n) (hr : r = ms_pk S n k) : r / 2 ^ (2 * (n - 1 - p)) % 4 = ms_dg S n k p := by
  rw [hr, Nat.pow_mul, show (2 : Nat) ^ 2 = 4 by decide]
  exact ms_pk_dg hS0 hS3 n k p hp
/-! the relation through the calls that change something -/
section RLV
variable {S K n wc dn : Nat} {w lw sy sb sh rw rk dr : Nat → Nat} {iz dz : Nat} {wm ro ch : Nat → Nat} {wc2 : Nat} {w2 lw2 sb2 sh2 rw2 rk2 wm2 dr2 ch2 : Nat → Nat}
theorem rl_size (h : rl_R S K n wc dn w lw sy sb sh rw rk dr iz dz wm ro ch) {a b : Nat} (ha1 : 1 ≤ a) (ha3 : a ≤ 3) (hb1 : 1 ≤ b) (hb4 : b ≤ 4) (h1 : ∀ j, j < 36 → w2 j = 1) (h2 : xq_ok a 0 w2 sy sb2 sh2 wc2 rw2 rk2) (h3 : ∀ j, j < 24 → wm2 j = 1) : rl_R a b 0 wc2 0 w2 lw sy sb2 sh2 rw2 rk2 dr 0 dz wm2 ro ch := by
  obtain ⟨hV, hM, g1, g2, g3, g4⟩ := h
  obtain ⟨v1, v2, v3, v4, v5, v6, v7, v8, v9⟩ := hV
  refine ⟨⟨by omega, ha3, by omega, hb4, by omega, fun i hi => by rw [h1 i hi]; decide, v7, fun p hp => absurd hp (Nat.not_lt_zero p), h2⟩, ⟨by omega, ha3, by omega, hb4, by omega, fun i hi => by rw [h3 i hi]; decide, fun p hp => absurd hp (Nat.not_lt_zero p)⟩, fun x y z hk => ?_, fun p hp => absurd hp (Nat.not_lt_zero p), ⟨by omega, g3.2⟩, Or.inr ⟨rfl, rfl⟩⟩
  rw [h1 _ (xq_slb ha3 hb4 hk), h3 _ (mq_slb ha3 hb4 hk)]
theorem rl_weigh (h : rl_R S K n wc dn w lw sy sb sh rw rk dr iz dz wm ro ch) {a b c v : Nat} (hk : xq_kr S K a b c) (hv : v ≤ 9) (h2 : xq_ok S n (va_up w ((a * 3 + b) * 4 + c) v) sy sb2 sh2 wc2 rw2 rk2) : rl_R S K n wc2 dn (va_up w ((a * 3 + b) * 4 + c) v) lw sy sb2 sh2 rw2 rk2 dr iz dz (va_up wm (mq_sl a b c) v) ro ch := by
  obtain ⟨hV, hM, g1, g2, g3, g4⟩ := h
  obtain ⟨v1, v2, v3, v4, v5, v6, v7, v8, v9⟩ := hV
  obtain ⟨m1, m2, m3, m4, m5, m6, m7⟩ := hM
  refine ⟨⟨v1, v2, v3, v4, v5, xq_upb v6 hv, v7, v8, h2⟩, ⟨m1, m2, m3, m4, m5, xq_upb m6 hv, m7⟩, fun x y z hz => ?_, g2, g3, g4⟩
  by_cases e : x = a ∧ y = b ∧ z = c
  · obtain ⟨rfl, rfl, rfl⟩ := e
    rw [xq_up, xq_up]
  · rw [xq_un (fun q => e (mq_inj v2 v4 hz hk q)), xq_un ?_]
    · exact g1 x y z hz
    · intro q
      unfold xq_kr at hk hz
      omega
theorem rl_see (h : rl_R S K n wc dn w lw sy sb sh rw rk dr iz dz wm ro ch) {k : Nat} (hk : k < K) (hn : n < 6) (h2 : xq_ok S (n + 1) w (va_up sy n k) sb2 sh2 wc2 rw2 rk2) : rl_R S K (n + 1) wc2 dn w lw (va_up sy n k) sb2 sh2 rw2 rk2 dr iz dz wm (va_up ro n k) ch := by
  obtain ⟨hV, hM, g1, g2, g3, g4⟩ := h
  obtain ⟨v1, v2, v3, v4, v5, v6, v7, v8, v9⟩ := hV
  obtain ⟨m1, m2, m3, m4, m5, m6, m7⟩ := hM
  refine ⟨⟨v1, v2, v3, v4, by omega, v6, v7, xq_upl v8 hk, h2⟩, ⟨m1, m2, m3, m4, by omega, m6, xq_upl m7 hk⟩, g1, fun p hp => ?_, g3, g4⟩
  by_cases e : p = n
  · rw [e, xq_up, xq_up]
  · rw [xq_un e, xq_un e]
    exact g2 p (by omega)
theorem rl_forget (h : rl_R S K n wc dn w lw sy sb sh rw rk dr iz dz wm ro ch) {j : Nat} (hj : j ≤ n) (h2 : xq_ok S j w sy sb2 sh2 wc2 rw2 rk2) : rl_R S K j wc2 dn w lw sy sb2 sh2 rw2 rk2 dr iz dz wm ro ch := by
  obtain ⟨hV, hM, g1, g2, g3, g4⟩ := h
  obtain ⟨v1, v2, v3, v4, v5, v6, v7, v8, v9⟩ := hV
  obtain ⟨m1, m2, m3, m4, m5, m6, m7⟩ := hM
  exact ⟨⟨v1, v2, v3, v4, by omega, v6, v7, fun p hp => v8 p (by omega), h2⟩, ⟨m1, m2, m3, m4, by omega, m6, fun p hp => m7 p (by omega)⟩, g1, fun p hp => g2 p (by omega), g3, g4⟩
theorem rl_learn (h : rl_R S K n wc dn w lw sy sb sh rw rk dr iz dz wm ro ch) (h1 : ∀ z1 z2 z3, xq_kr S K z1 z2 z3 → w2 ((z1 * 3 + z2) * 4 + z3) = xq_lv S K n w sy z1 z2 z3) (h2 : ∀ z1, z1 < 36 → w2 z1 ≤ 9) (h3 : ∀ z1, z1 < 36 → lw2 z1 ≤ 9) (h4 : xq_ok S n w2 sy sb2 sh2 wc2 rw2 rk2)
    (h5 : ∀ z1 z2 z3, xq_kr S K z1 z2 z3 → wm2 (mq_sl z1 z2 z3) = mq_lv S K n wm ro z1 z2 z3) (h6 : ∀ z1, z1 < 24 → wm2 z1 ≤ 9) : rl_R S K n wc2 dn w2 lw2 sy sb2 sh2 rw2 rk2 dr iz dz wm2 ro ch := by
  obtain ⟨hV, hM, g1, g2, g3, g4⟩ := h
  obtain ⟨v1, v2, v3, v4, v5, v6, v7, v8, v9⟩ := hV
  obtain ⟨m1, m2, m3, m4, m5, m6, m7⟩ := hM
  refine ⟨⟨v1, v2, v3, v4, v5, h2, h3, v8, h4⟩, ⟨m1, m2, m3, m4, m5, h6, m7⟩, fun x y z hz => ?_, g2, g3, g4⟩
  rw [h1 x y z hz, h5 x y z hz]
  exact rl_lv v1 (rl_e v8 g1 g2) g2 g1 hz
theorem rl_draw (h : rl_R S K n wc dn w lw sy sb sh rw rk dr iz dz wm ro ch) {v z z' : Nat} (h1 : ms_sum (fun z1 => ms_wt (xe w sy) S n z1) z ≤ v) (h2 : v < ms_sum (fun z1 => ms_wt (xe w sy) S n z1) (z + 1)) (h3 : ∀ q, q < n → dr2 q = ms_dg S n z q)
    (g1 : ms_sum (fun z1 => ms_wt (me wm ro) S n z1) z' ≤ v) (g2 : v < ms_sum (fun z1 => ms_wt (me wm ro) S n z1) (z' + 1)) (g3 : ∀ q, q < n → ch2 q = ms_dg S n z' q) : rl_R S K n wc n w lw sy sb sh rw rk dr2 1 n wm ro ch2 := by
  obtain ⟨hV, hM, k1, k2, k3, k4⟩ := h
  have hV2 := hV
  obtain ⟨v1, v2, v3, v4, v5, v6, v7, v8, v9⟩ := hV
  have he := rl_e v8 k1 k2
  rw [← rl_tot v1 he] at g1 g2
  have e : z = z' := ms_draw_uniq h1 h2 g1 g2
  subst e
  exact ⟨hV2, hM, k1, k2, ⟨v5, v5⟩, Or.inl ⟨rfl, rfl, fun q hq => by rw [h3 q hq, g3 q hq]⟩⟩
end RLV
