/-- rankFrom with r places left, from a beginning of number a -/
def xq_RF (l : Launch) (D : va_G) (cI cL : ClassId) (ad : Nat → Nat) (r : Nat) : Prop := ∀ (S K n wc dn : Nat) (w lw sy sb sh rw rk dr : Nat → Nat) (p y v a : Nat) (g : Nat → Nat), (p + r = n) → (n ≤ 6) → (S ≤ 3) → (0 < S) → (∀ i, i < 36 → w i ≤ 9) → (∀ p, p < n → sy p < 4) → (y = ms_pk S p a) → (v = ms_wt (xe w sy) S p a) → (v ≠ 0) → (a < S ^ p) → (ms_rr (ms_wt (xe w sy) S n) (ms_pk S n) (a * S ^ r) wc rw rk g) →
  xt_M l yX0_rankFrom cX0_rankFrom 8 none (r + 2) D cI cL [.ref (ad 0), .int (nI p), .int (nI y), .long (lN v)] (xX ad cI cL S K n wc dn w lw sy sb sh rw rk dr) (xt_Qv D cI cL (xX ad cI cL S K n wc dn w lw sy sb sh rw rk dr) (fun (u : (Nat) × (Nat → Nat) × (Nat → Nat)) => ∃ g2, ms_rr (ms_wt (xe w sy) S n) (ms_pk S n) ((a + 1) * S ^ r) u.1 u.2.1 u.2.2 g2) (fun u => xX ad cI cL S K n u.1 dn w lw sy sb sh u.2.1 u.2.2 dr))
theorem xq_k0 {a S r : Nat} : a * S ^ (r + 1) = (a * S + 0) * S ^ r := by rw [Nat.pow_succ, Nat.add_zero, Nat.mul_assoc, Nat.mul_comm S]
theorem xq_kS {a S r : Nat} : (a * S + S) * S ^ r = (a + 1) * S ^ (r + 1) := by rw [← Nat.succ_mul, Nat.pow_succ, Nat.mul_assoc, Nat.mul_comm S]
theorem xq_leaf {W pk : Nat → Nat} {a S wc v y wc2 : Nat} {rw rk rw2 rk2 g : Nat → Nat} (hrr : ms_rr W pk (a * S ^ 0) wc rw rk g) (hv : v = W a) (hy : y = pk a) (hv0 : v ≠ 0) (hins : xq_ins wc v y rw rk wc2 rw2 rk2) :
    ∃ g2, ms_rr W pk ((a + 1) * S ^ 0) wc2 rw2 rk2 g2 := by
  obtain ⟨pos, h1, h2, h3, h4, h5, h6, h7, h8⟩ := hins
  subst hv
  subst hy
  subst h8
  rw [Nat.pow_zero, Nat.mul_one] at hrr
  rw [Nat.pow_zero, Nat.mul_one]
  exact ms_rr_ins hrr hv0 h1 h2 h3 h4 h5 h6 h7
theorem xq_e81 {w sy : Nat → Nat} {S n : Nat} (hw : ∀ i, i < 36 → w i ≤ 9) (hS3 : S ≤ 3) (hsy : ∀ p, p < n → sy p < 4) : ∀ p s t, p < n → s < S → t < S → xe w sy p s t ≤ 81 :=
  fun p s t hp hs ht => xe_le hw (by omega) (by omega) (hsy p hp)
theorem xq_wtb {w sy : Nat → Nat} {S n p a : Nat} (hw : ∀ i, i < 36 → w i ≤ 9) (hS3 : S ≤ 3) (hS0 : 0 < S) (hn6 : n ≤ 6) (hp : p ≤ n) (hsy : ∀ p, p < n → sy p < 4) : ms_wt (xe w sy) S p a < 2 ^ 63 :=
  Nat.lt_of_le_of_lt (ms_wt_b hS0 (by omega) (fun q s t h1 h2 h3 => xe_le hw (by omega) (by omega) (hsy q (by omega)))) (by decide)
theorem xq_rrb {W pk : Nat → Nat} {K wc : Nat} {rw rk g : Nat → Nat} (h : ms_rr W pk K wc rw rk g) (hW : ∀ k, W k < 2 ^ 63) : ∀ j, j < wc → j < 12 → rw j < 2 ^ 63 := fun j h1 h2 => by
  rw [(h.2.1 j h1 h2).2.2.1]
  exact hW _
theorem xq_wcb {W pk : Nat → Nat} {K wc : Nat} {rw rk g : Nat → Nat} (h : ms_rr W pk K wc rw rk g) (hK : K ≤ 729) : wc < 2 ^ 30 := by
  have h1 := ms_cnt_le W K
  rw [← h.1] at h1
  omega
theorem xq_aS {S n p r a : Nat} (hS3 : S ≤ 3) (hn6 : n ≤ 6) (hpn : p + r = n) (ha : a < S ^ p) : a * S ^ r ≤ 729 := by
  have h1 : a * S ^ r ≤ S ^ p * S ^ r := Nat.mul_le_mul_right _ (Nat.le_of_lt ha)
  rw [← Nat.pow_add, hpn] at h1
  exact Nat.le_trans h1 (ms_pow_le hS3 hn6)
theorem xq_pkb {S p a : Nat} (hS0 : 0 < S) (hS3 : S ≤ 3) (hp : p ≤ 6) : ms_pk S p a < 4096 :=
  Nat.lt_of_lt_of_le (ms_pk_lt hS0 hS3 p a) (Nat.le_trans (Nat.pow_le_pow_right (by decide) hp) (by decide))
theorem xq_ls {S p a : Nat} (hS0 : 0 < S) (hS3 : S ≤ 3) : ms_pk S p a % 4 = ms_ls S p a := by
  cases p with
  | zero => rfl
  | succ p =>
    have h : a % S < S := Nat.mod_lt _ hS0
    show (ms_pk S p (a / S) * 4 + a % S) % 4 = ms_ls S (p + 1) a
    unfold ms_ls
    rw [if_neg (Nat.succ_ne_zero p)]
    omega
theorem xq_lsb {S p a : Nat} (hS0 : 0 < S) : ms_ls S p a < S := by
  unfold ms_ls
  split
  · exact hS0
  · exact Nat.mod_lt _ hS0
theorem xq_snl {S p a i : Nat} (ha : a < S ^ p) (hi : i < S) : a * S + i < S ^ (p + 1) := by
  rw [Nat.pow_succ]
  have h : (a + 1) * S ≤ S ^ p * S := Nat.mul_le_mul_right _ ha
  rw [Nat.succ_mul] at h
  omega
theorem xq_zero {w sy : Nat → Nat} {S n p r a i wc : Nat} {rw rk g : Nat → Nat} (hS0 : 0 < S) (hpn : p + (r + 1) = n) (hi : i < S) (hz : ms_wt (xe w sy) S p a * xe w sy p (ms_ls S p a) i = 0) (h : ms_rr (ms_wt (xe w sy) S n) (ms_pk S n) ((a * S + i) * S ^ r) wc rw rk g) :
    ∃ g2, ms_rr (ms_wt (xe w sy) S n) (ms_pk S n) ((a * S + (i + 1)) * S ^ r) wc rw rk g2 := by
  refine ⟨g, ?_⟩
  rw [← Nat.add_assoc, Nat.succ_mul]
  refine ms_rr_skip h _ (fun b hb => ?_)
  have e : n = (p + 1) + r := by omega
  rw [e]
  exact ms_wt_pre (xe_0 w sy) hS0 (by rw [ms_wt_snoc (xe_0 w sy) hi]; exact hz) r b hb
set_option maxHeartbeats 4000000 in
set_option maxRecDepth 100000 in
theorem cx_rankFrom_0 (l : Launch) (D : va_G) (cI cL : ClassId) (ad : Nat → Nat) : xq_RF l D cI cL ad 0 := by
  unfold xq_RF
  intro S K n wc dn w lw sy sb sh rw rk dr p y v a g hpn hn6 hS3 hS0 hw hsy hy hv hv0 haS hrr
  have hpn : p = n := by omega
  refine xt_start (own := RX0) rfl (by decide) (Nat.le_of_ble_eq_true rfl) (fun pg ev ss mi args below meth cd A Q ls C hE hA hl hW => ?_)
  replace hl : lv_has ls 8 [(0, .ref (ad 0)), (1, .int (nI p)), (2, .int (nI y)), (3, .long (lN v))] := hl
  refine lv_iload_n C.1 C.2.1 dX0_rankFrom_0 rfl (lv_at hl 1 rfl) ?_
  refine lv_aload_n C.1 C.2.1 dX0_rankFrom_1 rfl (lv_at hl 0 rfl) ?_
  refine xt_get xt_inX0 C hW 0 rfl rfl 4 (by decide) rfl flX0_seenCount rfl dX0_rankFrom_2 ?_
  refine xt_icmp_lt C (by omega) (by omega) dX0_rankFrom_5 (tgt := 15) (by decide) (fun h5 => ?_) (fun h5 => ?_)
  · exfalso
    omega
  · refine lv_aload_n C.1 C.2.1 dX0_rankFrom_8 rfl (lv_at hl 0 rfl) ?_
    refine lv_iload_n C.1 C.2.1 dX0_rankFrom_9 rfl (lv_at hl 2 rfl) ?_
    refine lv_lload_n C.1 C.2.1 dX0_rankFrom_10 rfl (lv_at hl 3 rfl) ?_
    refine xt_cvd hA hW (xt_runV C hW.1 hW.2.1 cwX0_X0_rankWay (cx_rankWay l D cI cL ad S K n wc dn w lw sy sb sh rw rk dr y v (by rw [hv]; exact xq_wtb hw hS3 hS0 hn6 (by omega) hsy) (xq_rrb hrr (fun k => xq_wtb hw hS3 hS0 hn6 (Nat.le_refl _) hsy)) (xq_wcb hrr (xq_aS hS3 hn6 (show p + 0 = n by omega) haS))) rfl rfl rfl hl.1 (rest := []) rfl (Nat.le_of_ble_eq_true rfl) ⟨(by show 1 + 1 ≤ 0 + 2; omega), (by show 8 + (5 + 11) + 40 * 1 ≤ 40 * (0 + 2); omega)⟩ ⟨Nat.zero_le _, Nat.zero_le _⟩ dX0_rankFrom_11) (fun u H locs hp11 hW => ?_)
    obtain ⟨wc_11, rw_11, rk_11⟩ := u
    replace hW : xt_W D A ss.heap (xX ad cI cL S K n wc_11 dn w lw sy sb sh rw_11 rk_11 dr) H locs := hW
    replace hp11 : xq_ins wc v y rw rk wc_11 rw_11 rk_11 := hp11
    exact xt_vret C hE (wc_11, rw_11, rk_11) hW (xq_leaf hrr (by rw [← hpn]; exact hv) (by rw [← hpn]; exact hy) hv0 hp11) dX0_rankFrom_14
set_option maxHeartbeats 4000000 in
set_option maxRecDepth 100000 in
theorem cx_rankFrom_s (l : Launch) (D : va_G) (cI cL : ClassId) (ad : Nat → Nat) (r : Nat) (ih : xq_RF l D cI cL ad r) : xq_RF l D cI cL ad (r + 1) := by
  unfold xq_RF
  intro S K n wc dn w lw sy sb sh rw rk dr p y v a g hpn hn6 hS3 hS0 hw hsy hy hv hv0 haS hrr
  have hyb : y < 4096 := by rw [hy]; exact xq_pkb hS0 hS3 (by omega)
  have hls : y % 4 = ms_ls S p a := by rw [hy]; exact xq_ls hS0 hS3
  have hlb : y % 4 < S := by rw [hls]; exact xq_lsb hS0
  refine xt_start (own := RX0) rfl (by decide) (Nat.le_of_ble_eq_true rfl) (fun pg ev ss mi args below meth cd A Q ls C hE hA hl hW => ?_)
  replace hl : lv_has ls 8 [(0, .ref (ad 0)), (1, .int (nI p)), (2, .int (nI y)), (3, .long (lN v))] := hl
  refine lv_iload_n C.1 C.2.1 dX0_rankFrom_0 rfl (lv_at hl 1 rfl) ?_
  refine lv_aload_n C.1 C.2.1 dX0_rankFrom_1 rfl (lv_at hl 0 rfl) ?_
  refine xt_get xt_inX0 C hW 0 rfl rfl 4 (by decide) rfl flX0_seenCount rfl dX0_rankFrom_2 ?_
  refine xt_icmp_lt C (by omega) (by omega) dX0_rankFrom_5 (tgt := 15) (by decide) (fun h5 => ?_) (fun h5 => ?_)
  · refine xt_iconst C 0 dX0_rankFrom_15 (by decide +kernel) ?_
    refine lv_istore C.1 C.2.1 dX0_rankFrom_16 hl (by decide) rfl (fun ls hl => ?_)
    replace hl : lv_has ls 8 [(5, .int (nI 0)), (0, .ref (ad 0)), (1, .int (nI p)), (2, .int (nI y)), (3, .long (lN v))] := hl
    have lp18 : ∀ (q : Nat) (i : Nat) (wc2 : Nat) (rv : Nat → Nat) (kv : Nat → Nat), S - i = q → (i ≤ S) → (∃ g2, ms_rr (ms_wt (xe w sy) S n) (ms_pk S n) ((a * S + i) * S ^ r) wc2 rv kv g2) → ∀ (ls : Array Slot) (H : Heap) (locs : List Loc), lv_has ls 8 [(5, .int (nI i)), (0, .ref (ad 0)), (1, .int (nI p)), (2, .int (nI y)), (3, .long (lN v))] → xt_W D A ss.heap (xX ad cI cL S K n wc2 dn w lw sy sb sh rv kv dr) H locs → W pg l ev (xt_R (r + 1 + 2)) ss mi args below meth cd H locs 0 0 Q (F0 mi 18 ls []) := by
      intro q
      induction q using Nat.strongRecOn with
      | _ q ih18 =>
        intro i wc2 rv kv hq18 hi hg ls H locs hl hW
        obtain ⟨g2, hg2⟩ := hg
        refine lv_iload C.1 C.2.1 dX0_rankFrom_18 (lv_at hl 0 rfl) ?_
        refine lv_aload_n C.1 C.2.1 dX0_rankFrom_20 rfl (lv_at hl 1 rfl) ?_
        refine xt_get xt_inX0 C hW 0 rfl rfl 0 (by decide) rfl flX0_stateCount rfl dX0_rankFrom_21 ?_
        refine xt_icmp_ge C (by omega) (by omega) dX0_rankFrom_24 (tgt := 69) (by decide) (fun h24 => ?_) (fun h24 => ?_)
        · exact xt_vret C hE (wc2, rv, kv) hW (by rw [show i = S by omega] at hg2; exact ⟨g2, by rw [← xq_kS]; exact hg2⟩) dX0_rankFrom_69
        · refine lv_lload_n C.1 C.2.1 dX0_rankFrom_27 rfl (lv_at hl 4 rfl) ?_
          refine lv_aload_n C.1 C.2.1 dX0_rankFrom_28 rfl (lv_at hl 1 rfl) ?_
          refine lv_iload_n C.1 C.2.1 dX0_rankFrom_29 rfl (lv_at hl 2 rfl) ?_
          refine lv_iload_n C.1 C.2.1 dX0_rankFrom_30 rfl (lv_at hl 3 rfl) ?_
          refine xt_iconst C 3 dX0_rankFrom_31 (by decide +kernel) ?_
          refine xt_and3 C dX0_rankFrom_32 (by omega) ?_
          refine lv_iload C.1 C.2.1 dX0_rankFrom_33 (lv_at hl 0 rfl) ?_
          refine xt_cl hA hW (xt_runV C hW.1 hW.2.1 cwX0_X0_entry (cx_entry l D cI cL ad S K n wc2 dn w lw sy sb sh rv kv dr p (y % 4) i (by omega) (by omega) (by omega) (hw) (hsy _ (by omega))) rfl rfl rfl hl.1 (rest := [.long (lN v)]) rfl (Nat.le_of_ble_eq_true rfl) ⟨(by show 1 + 1 ≤ r + 1 + 2; omega), (by show 8 + (5 + 11) + 40 * 1 ≤ 40 * (r + 1 + 2); omega)⟩ ⟨Nat.zero_le _, Nat.zero_le _⟩ dX0_rankFrom_35) (fun r35 u H locs hp35 hW => ?_)
          replace hW : xt_W D A ss.heap (xX ad cI cL S K n wc2 dn w lw sy sb sh rv kv dr) H locs := hW
          subst hp35
          refine xt_lmul C dX0_rankFrom_38 ?_
          refine lv_lstore C.1 C.2.1 dX0_rankFrom_39 hl (by decide) rfl (fun ls hl => ?_)
          replace hl : lv_has ls 8 [(6, .long (lN (v * (xe w sy p (y % 4) i)))), (5, .int (nI i)), (0, .ref (ad 0)), (1, .int (nI p)), (2, .int (nI y)), (3, .long (lN v))] := hl
          refine lv_lload C.1 C.2.1 dX0_rankFrom_41 (lv_at hl 0 rfl) ?_
          refine xt_lconst C 0 dX0_rankFrom_43 (by decide +kernel) ?_
          refine W.eq (g2 := F0 mi 44 ls [.long (lN 0), .long (lN (v * (xe w sy p (y % 4) i)))]) rfl ?_
          refine xt_l_eq C (by rw [hls, hv, ← ms_wt_snoc (xe_0 w sy) (show i < S by omega)]; exact xq_wtb hw hS3 hS0 hn6 (by omega) hsy) (by decide) dX0_rankFrom_44 dX0_rankFrom_45 (tgt := 63) (by decide) (fun h44 => ?_) (fun h44 => ?_)
          · have hz : v * xe w sy p (y % 4) i = 0 := h44
            refine lv_iinc (k := 1) C.1 C.2.1 dX0_rankFrom_63 hl rfl xt_inc (by decide) rfl (fun ls hl => ?_)
            replace hl : lv_has ls 8 [(5, .int (nI (i + 1))), (6, .long (lN (v * (xe w sy p (y % 4) i)))), (0, .ref (ad 0)), (1, .int (nI p)), (2, .int (nI y)), (3, .long (lN v))] := hl
            refine lv_goto C.1 C.2.1 dX0_rankFrom_66 (tgt := 18) (by decide) ?_
            exact ih18 _ (by omega) (i + 1) wc2 rv kv rfl (by omega) (xq_zero hS0 hpn (by omega) (by rw [← hls, ← hv]; exact hz) hg2) ls _ _ (lv_sub hl [0, 2, 3, 4, 5] rfl) hW
          · refine lv_aload_n C.1 C.2.1 dX0_rankFrom_48 rfl (lv_at hl 2 rfl) ?_
            refine lv_iload_n C.1 C.2.1 dX0_rankFrom_49 rfl (lv_at hl 3 rfl) ?_
            refine xt_iconst C 1 dX0_rankFrom_50 (by decide +kernel) ?_
            refine xt_iadd C dX0_rankFrom_51 ?_
            refine lv_iload_n C.1 C.2.1 dX0_rankFrom_52 rfl (lv_at hl 4 rfl) ?_
            refine xt_iconst C 2 dX0_rankFrom_53 (by decide +kernel) ?_
            refine xt_shl2 C dX0_rankFrom_54 (by omega) ?_
            refine lv_iload C.1 C.2.1 dX0_rankFrom_55 (lv_at hl 1 rfl) ?_
            refine xt_ior4 C dX0_rankFrom_57 (by omega) ?_
            refine lv_lload C.1 C.2.1 dX0_rankFrom_58 (lv_at hl 0 rfl) ?_
            refine xt_cvd hA hW (xt_runV C hW.1 hW.2.1 cwX0_X0_rankFrom (ih S K n wc2 dn w lw sy sb sh rv kv dr (p + 1) (y * 4 + i) (v * (xe w sy p (y % 4) i)) (a * S + i) g2 (by omega) (hn6) (hS3) (hS0) (hw) (hsy) (by rw [hy, ms_pk_snoc (show i < S by omega)]) (by rw [hls, hv, ← ms_wt_snoc (xe_0 w sy) (show i < S by omega)]) (h44) (xq_snl haS (by omega)) (hg2)) rfl rfl rfl hl.1 (rest := []) rfl (Nat.le_of_ble_eq_true rfl) ⟨(by show (r + 2) + 1 ≤ r + 1 + 2; omega), (by show 8 + (8 + 11) + 40 * (r + 2) ≤ 40 * (r + 1 + 2); omega)⟩ ⟨Nat.zero_le _, Nat.zero_le _⟩ dX0_rankFrom_60) (fun u H locs hp60 hW => ?_)
            obtain ⟨wc_60, rw_60, rk_60⟩ := u
            replace hW : xt_W D A ss.heap (xX ad cI cL S K n wc_60 dn w lw sy sb sh rw_60 rk_60 dr) H locs := hW
            replace hp60 : ∃ g2, ms_rr (ms_wt (xe w sy) S n) (ms_pk S n) ((a * S + i + 1) * S ^ r) wc_60 rw_60 rk_60 g2 := hp60
            refine lv_iinc (k := 1) C.1 C.2.1 dX0_rankFrom_63 hl rfl xt_inc (by decide) rfl (fun ls hl => ?_)
            replace hl : lv_has ls 8 [(5, .int (nI (i + 1))), (6, .long (lN (v * (xe w sy p (y % 4) i)))), (0, .ref (ad 0)), (1, .int (nI p)), (2, .int (nI y)), (3, .long (lN v))] := hl
            refine W.eq (g2 := F0 mi 66 ls []) rfl ?_
            refine lv_goto C.1 C.2.1 dX0_rankFrom_66 (tgt := 18) (by decide) ?_
            exact ih18 _ (by omega) (i + 1) wc_60 rw_60 rk_60 rfl (by omega) (hp60) ls _ _ (lv_sub hl [0, 2, 3, 4, 5] rfl) hW
    exact lp18 _ 0 wc rw rk rfl (Nat.zero_le _) (⟨g, by rw [← xq_k0]; exact hrr⟩) ls _ _ (lv_sub hl [0, 1, 2, 3, 4] rfl) hW
  · exfalso
    omega
theorem cx_rankFrom (l : Launch) (D : va_G) (cI cL : ClassId) (ad : Nat → Nat) : ∀ r : Nat, xq_RF l D cI cL ad r
  | 0 => cx_rankFrom_0 l D cI cL ad
  | r + 1 => cx_rankFrom_s l D cI cL ad r (cx_rankFrom l D cI cL ad r)
