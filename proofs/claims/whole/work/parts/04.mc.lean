/-! a way grows by a state -/
def ms_ls (S p a : Nat) : Nat := if p = 0 then 0 else a % S
theorem ms_ls_snoc {S p a t : Nat} (ht : t < S) : ms_ls S (p + 1) (a * S + t) = t := by
  unfold ms_ls
  rw [if_neg (Nat.succ_ne_zero p), ms_last ht]
theorem ms_wt_0 (e : Nat → Nat → Nat → Nat) (S a : Nat) : ms_wt e S 0 a = 1 := rfl
theorem ms_wt_snoc {e : Nat → Nat → Nat → Nat} (he : ∀ x y, e 0 x y = e 0 0 y) {S p a t : Nat} (ht : t < S) : ms_wt e S (p + 1) (a * S + t) = ms_wt e S p a * e p (ms_ls S p a) t := by
  unfold ms_wt
  rw [ms_pr_succ, Nat.zero_add, ms_dg_last ht, ms_pr_congr (v := ms_dg S p a) (fun q h1 _ => ms_dg_snoc ht (by omega))]
  congr 1
  by_cases hp : p = 0
  · subst hp
    rw [he, he 0]
    rfl
  · unfold ms_ls
    rw [if_neg hp, ms_dg_snoc ht (by omega)]
    unfold ms_dg
    have e1 : p - 1 - (p - 1) = 0 := by omega
    rw [e1, Nat.pow_zero, Nat.div_one]
/-- nothing weighs behind a beginning that does not -/
theorem ms_wt_pre {e : Nat → Nat → Nat → Nat} (he : ∀ x y, e 0 x y = e 0 0 y) {S p a : Nat} (hS : 0 < S) (hz : ms_wt e S p a = 0) : ∀ (r b : Nat), b < S ^ r → ms_wt e S (p + r) (a * S ^ r + b) = 0
  | 0, b, hb => by
    rw [Nat.pow_zero] at hb
    have hb0 : b = 0 := by omega
    rw [hb0, Nat.pow_zero, Nat.mul_one, Nat.add_zero, Nat.add_zero]
    exact hz
  | r + 1, b, hb => by
    have hm : b % S < S := Nat.mod_lt _ hS
    have hd : b / S < S ^ r := by
      rw [Nat.div_lt_iff_lt_mul hS, ← Nat.pow_succ]; exact hb
    have e1 : a * S ^ (r + 1) + b = (a * S ^ r + b / S) * S + b % S := by
      rw [Nat.add_mul, Nat.mul_assoc, ← Nat.pow_succ, Nat.add_assoc, Nat.div_add_mod']
    rw [e1, ← Nat.add_assoc p r 1, ms_wt_snoc he hm, ms_wt_pre he hS hz r (b / S) hd, Nat.zero_mul]
/-- a block of ways with one beginning -/
theorem ms_blk {e : Nat → Nat → Nat → Nat} (he : ∀ x y, e 0 x y = e 0 0 y) {S n p r a t : Nat} (hn : n = p + 1 + r) (ht : t < S) : ms_sum (fun b => ms_wt e S n ((a * S + t) * S ^ r + b)) (S ^ r) = ms_wt e S p a * e p (ms_ls S p a) t * ms_bh e S n r t := by
  have h1 : ms_af e S p a t = ms_wt e S p a * e p (ms_ls S p a) t := by
    rw [← ms_wt_snoc he ht]
    unfold ms_af ms_wt
    refine ms_pr_congr (fun q h1 _ => ?_)
    simp only [ms_wa]
    by_cases h5 : q < p
    · rw [if_pos h5, ms_dg_snoc ht h5]
    · have h6 : q = p := by omega
      rw [if_neg h5, h6, ms_dg_last ht]
  rw [← ms_bh_sum (e := e) (S := S) (n := n) r p t (by omega) (by omega), ← h1, ← ms_sum_mull]
  exact ms_sum_congr (fun b hb => ms_wt_cut e hn ht hb)
theorem ms_blk_step {e : Nat → Nat → Nat → Nat} (he : ∀ x y, e 0 x y = e 0 0 y) {S n p r a t : Nat} (hn : n = p + 1 + r) (ht : t < S) : ms_sum (fun k => ms_wt e S n k) ((a * S + t + 1) * S ^ r) = ms_sum (fun k => ms_wt e S n k) ((a * S + t) * S ^ r) + ms_wt e S p a * e p (ms_ls S p a) t * ms_bh e S n r t := by
  rw [Nat.succ_mul, ms_sum_split, ms_blk he hn ht]
theorem ms_rr_skip {w pk : Nat → Nat} {wc : Nat} {rw rk r : Nat → Nat} {K : Nat} (h : ms_rr w pk K wc rw rk r) : ∀ m : Nat, (∀ b, b < m → w (K + b) = 0) → ms_rr w pk (K + m) wc rw rk r
  | 0, _ => h
  | m + 1, hz => ms_rr_z (ms_rr_skip h m (fun b hb => hz b (by omega))) (hz m (Nat.lt_succ_self m))
/-- what can be weighed at all -/
theorem ms_tot_le {e : Nat → Nat → Nat → Nat} {S n : Nat} (hS : 0 < S) (h3 : S ≤ 3) (hn : n ≤ 6) (h : ∀ p s t, p < n → s < S → t < S → e p s t ≤ 81) : ms_sum (fun k => ms_wt e S n k) (S ^ n) ≤ 205891132094649 := by
  have h1 : ms_sum (fun k => ms_wt e S n k) (S ^ n) ≤ S ^ n * 81 ^ n := ms_sum_le (fun k _ => ms_wt_le hS h)
  have h2 : S ^ n ≤ 3 ^ 6 := Nat.le_trans (Nat.pow_le_pow_left h3 n) (Nat.pow_le_pow_right (by decide) hn)
  have h4 : 81 ^ n ≤ 81 ^ 6 := Nat.pow_le_pow_right (by decide) hn
  exact Nat.le_trans h1 (Nat.le_trans (Nat.mul_le_mul h2 h4) (by decide))
theorem ms_wt_b {e : Nat → Nat → Nat → Nat} {S n k : Nat} (hS : 0 < S) (hn : n ≤ 6) (h : ∀ p s t, p < n → s < S → t < S → e p s t ≤ 81) : ms_wt e S n k ≤ 282429536481 :=
  Nat.le_trans (ms_wt_le hS h) (Nat.le_trans (Nat.pow_le_pow_right (by decide) hn) (by decide))
theorem ms_pow_le {S n : Nat} (h3 : S ≤ 3) (hn : n ≤ 6) : S ^ n ≤ 729 :=
  Nat.le_trans (Nat.pow_le_pow_left h3 n) (Nat.le_trans (Nat.pow_le_pow_right (by decide) hn) (by decide))
/-! the class's entries, and the reference's -/
def xe (w sy : Nat → Nat) (p s t : Nat) : Nat := (if p = 0 then w ((0 * 3 + 0) * 4 + t) else w ((1 * 3 + s) * 4 + t)) * w ((2 * 3 + t) * 4 + sy p)
theorem xe_0 (w sy : Nat → Nat) : ∀ x y, xe w sy 0 x y = xe w sy 0 0 y := fun _ _ => rfl
theorem xe_le {w sy : Nat → Nat} {p s t : Nat} (hw : ∀ i, i < 36 → w i ≤ 9) (hs : s < 3) (ht : t < 3) (hy : sy p < 4) : xe w sy p s t ≤ 81 := by
  unfold xe
  have h1 : (if p = 0 then w ((0 * 3 + 0) * 4 + t) else w ((1 * 3 + s) * 4 + t)) ≤ 9 := by
    split
    · exact hw _ (by omega)
    · exact hw _ (by omega)
  exact Nat.mul_le_mul h1 (hw _ (by omega))
def me (w ro : Nat → Nat) (p s t : Nat) : Nat := (if p = 0 then w t else w (3 + 3 * s + t)) * w (12 + 4 * t + ro p)
theorem me_0 (w ro : Nat → Nat) : ∀ x y, me w ro 0 x y = me w ro 0 0 y := fun _ _ => rfl
theorem me_le {w ro : Nat → Nat} {p s t : Nat} (hw : ∀ i, i < 24 → w i ≤ 9) (hs : s < 3) (ht : t < 3) (hy : ro p < 4) : me w ro p s t ≤ 81 := by
  unfold me
  have h1 : (if p = 0 then w t else w (3 + 3 * s + t)) ≤ 9 := by
    split
    · exact hw _ (by omega)
    · exact hw _ (by omega)
  exact Nat.mul_le_mul h1 (hw _ (by omega))
/-! how often a way shows something, and the sums over all ways -/
def ms_in (S n : Nat) (sy : Nat → Nat) (kd r c k p : Nat) : Prop := (kd = 0 ∧ p = r ∧ ms_dg S n k p = c) ∨ (kd = 1 ∧ p + 1 < n ∧ ms_dg S n k p = r ∧ ms_dg S n k (p + 1) = c) ∨ (kd = 2 ∧ ms_dg S n k p = r ∧ sy p = c)
theorem ms_in_dec (S n : Nat) (sy : Nat → Nat) (kd r c k p : Nat) : ms_in S n sy kd r c k p ∨ ¬ ms_in S n sy kd r c k p := by
  unfold ms_in
  omega
noncomputable def ms_id (S n : Nat) (sy : Nat → Nat) (kd r c k p : Nat) : Nat := @ite Nat (ms_in S n sy kd r c k p) (Classical.propDecidable _) 1 0
theorem ms_id_t {S n : Nat} {sy : Nat → Nat} {kd r c k p : Nat} (h : ms_in S n sy kd r c k p) : ms_id S n sy kd r c k p = 1 := if_pos h
theorem ms_id_f {S n : Nat} {sy : Nat → Nat} {kd r c k p : Nat} (h : ¬ ms_in S n sy kd r c k p) : ms_id S n sy kd r c k p = 0 := if_neg h
noncomputable def ms_tm (S n : Nat) (sy : Nat → Nat) (kd r c k : Nat) : Nat := ms_sum (ms_id S n sy kd r c k) n
def ms_un (e : Nat → Nat → Nat → Nat) (S n : Nat) (sy : Nat → Nat) (kd r c : Nat) : Nat :=
  if kd = 0 then (if r < n then ms_bf e S r c * ms_bh e S n (n - 1 - r) c else 0)
  else if kd = 1 then ms_sum (fun p => ms_bf e S p r * e (p + 1) r c * ms_bh e S n (n - 1 - (p + 1)) c) (n - 1)
  else ms_sum (fun p => if sy p = c then ms_bf e S p r * ms_bh e S n (n - 1 - p) r else 0) n
theorem ms_un_swap (e : Nat → Nat → Nat → Nat) (S n : Nat) (sy : Nat → Nat) (kd r c : Nat) : ms_sum (fun k => ms_wt e S n k * ms_tm S n sy kd r c k) (S ^ n) = ms_sum (fun p => ms_sum (fun k => ms_wt e S n k * ms_id S n sy kd r c k p) (S ^ n)) n := by
  rw [← ms_sum_swap (fun k p => ms_wt e S n k * ms_id S n sy kd r c k p)]
  refine ms_sum_congr (fun k _ => ?_)
  unfold ms_tm
  rw [ms_sum_mull]
theorem ms_un_0 {e : Nat → Nat → Nat → Nat} (he : ∀ x y, e 0 x y = e 0 0 y) {S n r c : Nat} (sy : Nat → Nat) (hc : c < S) : ms_sum (fun k => ms_wt e S n k * ms_tm S n sy 0 r c k) (S ^ n) = ms_un e S n sy 0 r c := by
  rw [ms_un_swap]
  unfold ms_un
  rw [if_pos rfl]
  by_cases hr : r < n
  · rw [if_pos hr, ms_sum_one hr (fun p _ hne => ms_sum_eq0 (fun k _ => by rw [ms_id_f (by unfold ms_in; omega), Nat.mul_zero])), ← ms_through he hr hc]
    refine ms_sum_congr (fun k _ => ?_)
    by_cases hd : ms_dg S n k r = c
    · rw [if_pos hd, ms_id_t (Or.inl ⟨rfl, rfl, hd⟩)]
    · rw [if_neg hd, ms_id_f (by unfold ms_in; omega)]
  · rw [if_neg hr]
    exact ms_sum_eq0 (fun p hp => ms_sum_eq0 (fun k _ => by rw [ms_id_f (by unfold ms_in; omega), Nat.mul_zero]))
theorem ms_un_1 {e : Nat → Nat → Nat → Nat} (he : ∀ x y, e 0 x y = e 0 0 y) {S n r c : Nat} (sy : Nat → Nat) (hr : r < S) (hc : c < S) : ms_sum (fun k => ms_wt e S n k * ms_tm S n sy 1 r c k) (S ^ n) = ms_un e S n sy 1 r c := by
  rw [ms_un_swap]
  unfold ms_un
  rw [if_neg (by decide), if_pos rfl]
  have step : ∀ p, p + 1 < n → ms_sum (fun k => ms_wt e S n k * ms_id S n sy 1 r c k p) (S ^ n) = ms_bf e S p r * e (p + 1) r c * ms_bh e S n (n - 1 - (p + 1)) c := by
    intro p hp
    rw [← ms_stepping he hp hr hc]
    refine ms_sum_congr (fun k _ => ?_)
    by_cases hd : ms_dg S n k p = r ∧ ms_dg S n k (p + 1) = c
    · rw [if_pos hd, ms_id_t (Or.inr (Or.inl ⟨rfl, hp, hd⟩))]
    · rw [if_neg hd, ms_id_f (by unfold ms_in; omega)]
  cases n with
  | zero => rfl
  | succ n =>
    rw [ms_sum_succ, ms_sum_eq0 (n := S ^ (n + 1)) (fun k _ => by rw [ms_id_f (by unfold ms_in; omega), Nat.mul_zero]), Nat.add_zero]
    exact ms_sum_congr (fun p hp => step p (by omega))
theorem ms_un_2 {e : Nat → Nat → Nat → Nat} (he : ∀ x y, e 0 x y = e 0 0 y) {S n r c : Nat} (sy : Nat → Nat) (hr : r < S) : ms_sum (fun k => ms_wt e S n k * ms_tm S n sy 2 r c k) (S ^ n) = ms_un e S n sy 2 r c := by
  rw [ms_un_swap]
  unfold ms_un
  rw [if_neg (by decide), if_neg (by decide)]
  refine ms_sum_congr (fun p hp => ?_)
  by_cases hy : sy p = c
  · rw [if_pos hy, ← ms_through he hp hr]
    refine ms_sum_congr (fun k _ => ?_)
    by_cases hd : ms_dg S n k p = r
    · rw [if_pos hd, ms_id_t (Or.inr (Or.inr ⟨rfl, hd, hy⟩))]
    · rw [if_neg hd, ms_id_f (by unfold ms_in; omega)]
  · rw [if_neg hy]
    exact ms_sum_eq0 (fun k _ => by rw [ms_id_f (by unfold ms_in; omega), Nat.mul_zero])
theorem ms_tm_le (S n : Nat) (sy : Nat → Nat) (kd r c k : Nat) : ms_tm S n sy kd r c k ≤ n := by
  have h : ms_tm S n sy kd r c k ≤ n * 1 := ms_sum_le (fun p _ => by
    rcases ms_in_dec S n sy kd r c k p with h | h
    · rw [ms_id_t h]; exact Nat.le_refl _
    · rw [ms_id_f h]; exact Nat.zero_le _)
  omega
