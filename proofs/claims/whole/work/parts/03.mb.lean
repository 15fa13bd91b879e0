/-! ranks -/
/-- a is heavier than b -/
def ms_hv (w : Nat → Nat) (a b : Nat) : Prop := w b < w a ∨ (w a = w b ∧ a < b)
theorem ms_hv_tr {w : Nat → Nat} {a b c : Nat} (h1 : ms_hv w a b) (h2 : ms_hv w b c) : ms_hv w a c := by
  unfold ms_hv at *
  omega
theorem ms_hv_ir {w : Nat → Nat} {a : Nat} (h : ms_hv w a a) : False := by
  unfold ms_hv at h
  omega
theorem ms_hv_le {w : Nat → Nat} {a b : Nat} (h : ms_hv w a b) : w b ≤ w a := by
  unfold ms_hv at h
  omega
def ms_cnt (w : Nat → Nat) : Nat → Nat
  | 0 => 0
  | n + 1 => ms_cnt w n + (if w n = 0 then 0 else 1)
theorem ms_cnt_z {w : Nat → Nat} {n : Nat} (h : w n = 0) : ms_cnt w (n + 1) = ms_cnt w n := by
  show ms_cnt w n + (if w n = 0 then 0 else 1) = _
  rw [if_pos h, Nat.add_zero]
theorem ms_cnt_s {w : Nat → Nat} {n : Nat} (h : w n ≠ 0) : ms_cnt w (n + 1) = ms_cnt w n + 1 := by
  show ms_cnt w n + (if w n = 0 then 0 else 1) = _
  rw [if_neg h]
theorem ms_cnt_le (w : Nat → Nat) : ∀ n : Nat, ms_cnt w n ≤ n
  | 0 => Nat.le_refl _
  | n + 1 => by
    have h := ms_cnt_le w n
    by_cases e : w n = 0
    · rw [ms_cnt_z e]; omega
    · rw [ms_cnt_s e]; omega
/-- the twelve heaviest of the numbers below K, by r: their weights rw, their ways rk -/
def ms_rr (w pk : Nat → Nat) (K wc : Nat) (rw rk r : Nat → Nat) : Prop :=
  wc = ms_cnt w K ∧
  (∀ i, i < wc → i < 12 → r i < K ∧ w (r i) ≠ 0 ∧ rw i = w (r i) ∧ rk i = pk (r i)) ∧
  (∀ i j, i < j → j < wc → j < 12 → ms_hv w (r i) (r j)) ∧
  (∀ k, k < K → w k ≠ 0 → (∃ i, i < wc ∧ i < 12 ∧ r i = k) ∨ (12 ≤ wc ∧ ∀ i, i < 12 → ms_hv w (r i) k))
theorem ms_rr_0 (w pk rw rk r : Nat → Nat) : ms_rr w pk 0 0 rw rk r :=
  ⟨rfl, fun i h _ => absurd h (Nat.not_lt_zero i), fun i j _ h _ => absurd h (Nat.not_lt_zero j), fun k h _ => absurd h (Nat.not_lt_zero k)⟩
theorem ms_rr_z {w pk : Nat → Nat} {K wc : Nat} {rw rk r : Nat → Nat} (h : ms_rr w pk K wc rw rk r) (hz : w K = 0) : ms_rr w pk (K + 1) wc rw rk r := by
  obtain ⟨h1, h2, h3, h4⟩ := h
  refine ⟨by rw [ms_cnt_z hz]; exact h1, fun i a b => ?_, h3, fun k hk hw => ?_⟩
  · obtain ⟨x1, x2, x3, x4⟩ := h2 i a b
    exact ⟨by omega, x2, x3, x4⟩
  · have hne : k ≠ K := fun q => hw (by rw [q]; exact hz)
    exact h4 k (by omega) hw
theorem ms_rr_ins {w pk : Nat → Nat} {K wc pos : Nat} {rw rk rw2 rk2 r : Nat → Nat} (h : ms_rr w pk K wc rw rk r) (hw : w K ≠ 0)
    (hpw : pos ≤ wc) (hp12 : pos ≤ 12) (hb : ∀ j, pos ≤ j → j < wc → j < 12 → rw j < w K) (ha : ∀ j, j + 1 = pos → w K ≤ rw j)
    (e1 : ∀ j, j < pos → j < 12 → rw2 j = rw j ∧ rk2 j = rk j) (e2 : pos < 12 → rw2 pos = w K ∧ rk2 pos = pk K) (e3 : ∀ j, pos ≤ j → j < wc → j + 1 < 12 → rw2 (j + 1) = rw j ∧ rk2 (j + 1) = rk j) :
    ∃ r2 : Nat → Nat, ms_rr w pk (K + 1) (wc + 1) rw2 rk2 r2 := by
  obtain ⟨h1, h2, h3, h4⟩ := h
  have r2a : ∀ j, j < pos → (fun j => if j < pos then r j else if j = pos then K else r (j - 1)) j = r j := fun j hj => by simp [hj]
  have r2b : (fun j => if j < pos then r j else if j = pos then K else r (j - 1)) pos = K := by simp
  have r2c : ∀ j, pos ≤ j → (fun j => if j < pos then r j else if j = pos then K else r (j - 1)) (j + 1) = r j := fun j hj => by
    have q1 : ¬ j + 1 < pos := by omega
    have q2 : ¬ j + 1 = pos := by omega
    simp [q1, q2]
  generalize (fun j => if j < pos then r j else if j = pos then K else r (j - 1)) = r2 at r2a r2b r2c
  have above : ∀ i, i < pos → ms_hv w (r i) K := by
    intro i hi
    obtain ⟨q, hq⟩ : ∃ q, q + 1 = pos := ⟨pos - 1, by omega⟩
    have x := ha q hq
    obtain ⟨y1, y2, y3, y4⟩ := h2 q (by omega) (by omega)
    obtain ⟨z1, z2, z3, z4⟩ := h2 i (by omega) (by omega)
    by_cases hiq : i = q
    · subst hiq
      unfold ms_hv
      omega
    · have t := ms_hv_le (h3 i q (by omega) (by omega) (by omega))
      unfold ms_hv
      omega
  have beneath : ∀ i, pos ≤ i → i < wc → i < 12 → ms_hv w K (r i) := by
    intro i h5 h6 h7
    obtain ⟨z1, z2, z3, z4⟩ := h2 i h6 h7
    have x := hb i h5 h6 h7
    unfold ms_hv
    omega
  refine ⟨r2, by rw [ms_cnt_s hw]; omega, fun i hi h12 => ?_, fun i j hij hj h12 => ?_, fun k hk hkw => ?_⟩
  · by_cases c1 : i < pos
    · obtain ⟨z1, z2, z3, z4⟩ := h2 i (by omega) h12
      obtain ⟨u1, u2⟩ := e1 i c1 h12
      rw [r2a i c1, u1, u2]
      exact ⟨by omega, z2, z3, z4⟩
    · by_cases c2 : i = pos
      · subst c2
        obtain ⟨u1, u2⟩ := e2 h12
        rw [r2b, u1, u2]
        exact ⟨Nat.lt_succ_self K, hw, rfl, rfl⟩
      · obtain ⟨j, rfl⟩ : ∃ j, i = j + 1 := ⟨i - 1, by omega⟩
        obtain ⟨z1, z2, z3, z4⟩ := h2 j (by omega) (by omega)
        obtain ⟨u1, u2⟩ := e3 j (by omega) (by omega) h12
        rw [r2c j (by omega), u1, u2]
        exact ⟨by omega, z2, z3, z4⟩
  · by_cases c1 : j < pos
    · rw [r2a i (by omega), r2a j c1]
      exact h3 i j hij (by omega) h12
    · by_cases c2 : j = pos
      · subst c2
        rw [r2a i hij, r2b]
        exact above i hij
      · obtain ⟨q, rfl⟩ : ∃ q, j = q + 1 := ⟨j - 1, by omega⟩
        rw [r2c q (by omega)]
        by_cases c3 : i < pos
        · rw [r2a i c3]
          exact h3 i q (by omega) (by omega) (by omega)
        · by_cases c4 : i = pos
          · subst c4
            rw [r2b]
            exact beneath q (by omega) (by omega) (by omega)
          · obtain ⟨u, rfl⟩ : ∃ u, i = u + 1 := ⟨i - 1, by omega⟩
            rw [r2c u (by omega)]
            exact h3 u q (by omega) (by omega) (by omega)
  · by_cases ck : k = K
    · subst ck
      by_cases c1 : pos < 12
      · exact Or.inl ⟨pos, by omega, c1, r2b⟩
      · refine Or.inr ⟨by omega, fun i hi => ?_⟩
        rw [r2a i (by omega)]
        exact above i (by omega)
    · rcases h4 k (by omega) hkw with ⟨i, i1, i2, i3⟩ | ⟨g1, g2⟩
      · by_cases c1 : i < pos
        · exact Or.inl ⟨i, by omega, i2, by rw [r2a i c1]; exact i3⟩
        · by_cases c2 : i + 1 < 12
          · exact Or.inl ⟨i + 1, by omega, c2, by rw [r2c i (by omega)]; exact i3⟩
          · have c3 : i = 11 := by omega
            subst c3
            rw [← i3]
            refine Or.inr ⟨by omega, fun j hj => ?_⟩
            by_cases d1 : j < pos
            · rw [r2a j d1]
              exact h3 j 11 (by omega) i1 (by omega)
            · by_cases d2 : j = pos
              · subst d2
                rw [r2b]
                exact beneath 11 (by omega) i1 (by omega)
              · obtain ⟨q, rfl⟩ : ∃ q, j = q + 1 := ⟨j - 1, by omega⟩
                rw [r2c q (by omega)]
                exact h3 q 11 (by omega) i1 (by omega)
      · refine Or.inr ⟨by omega, fun j hj => ?_⟩
        by_cases d1 : j < pos
        · rw [r2a j d1]
          exact g2 j hj
        · by_cases d2 : j = pos
          · subst d2
            rw [r2b]
            exact ms_hv_tr (beneath 11 (by omega) (by omega) (by omega)) (g2 11 (by omega))
          · obtain ⟨q, rfl⟩ : ∃ q, j = q + 1 := ⟨j - 1, by omega⟩
            rw [r2c q (by omega)]
            exact g2 q (by omega)
/-- the reference's choice: the first of the greatest among what is left -/
theorem ms_rr_best {w pk : Nat → Nat} {K wc i b : Nat} {rw rk r a : Nat → Nat} (h : ms_rr w pk K wc rw rk r) (hi : i < 12) (ha : ∀ k, k < K → a k = if ∃ j, j < i ∧ j < wc ∧ r j = k then 0 else w k)
    (hb : b < K) (hb0 : a b ≠ 0) (hmax : ∀ k, k < K → a k ≤ a b) (hfst : ∀ k, k < b → a k < a b) : i < wc ∧ r i = b := by
  obtain ⟨h1, h2, h3, h4⟩ := h
  have hnb : ¬ ∃ j, j < i ∧ j < wc ∧ r j = b := fun q => hb0 (by rw [ha b hb, if_pos q])
  have eb : a b = w b := by rw [ha b hb, if_neg hnb]
  have hwb : w b ≠ 0 := by rw [← eb]; exact hb0
  have hi2 : i < wc := by
    rcases h4 b hb hwb with ⟨j, j1, j2, j3⟩ | ⟨g1, g2⟩
    · have : ¬ j < i := fun q => hnb ⟨j, q, j1, j3⟩
      omega
    · omega
  refine ⟨hi2, ?_⟩
  obtain ⟨z1, z2, z3, z4⟩ := h2 i hi2 hi
  have hni : ¬ ∃ j, j < i ∧ j < wc ∧ r j = r i := by
    intro ⟨j, j1, j2, j3⟩
    have t := h3 j i j1 hi2 hi
    rw [j3] at t
    exact ms_hv_ir t
  have ei : a (r i) = w (r i) := by rw [ha _ z1, if_neg hni]
  have m1 := hmax _ z1
  have key : r i = b ∨ ms_hv w (r i) b := by
    rcases h4 b hb hwb with ⟨j, j1, j2, j3⟩ | ⟨g1, g2⟩
    · have j4 : ¬ j < i := fun q => hnb ⟨j, q, j1, j3⟩
      by_cases j5 : j = i
      · subst j5
        exact Or.inl j3
      · right
        rw [← j3]
        exact h3 i j (by omega) j1 j2
    · exact Or.inr (g2 i hi)
  rcases key with q | q
  · exact q
  · exfalso
    unfold ms_hv at q
    rcases q with q | ⟨q1, q2⟩
    · omega
    · have := hfst _ q2
      omega
theorem ms_rr_none {w pk : Nat → Nat} {K wc i : Nat} {rw rk r a : Nat → Nat} (h : ms_rr w pk K wc rw rk r) (hi : i < 12) (ha : ∀ k, k < K → a k = if ∃ j, j < i ∧ j < wc ∧ r j = k then 0 else w k)
    (hz : ∀ k, k < K → a k = 0) : ¬ i < wc := by
  intro hi2
  obtain ⟨h1, h2, h3, h4⟩ := h
  obtain ⟨z1, z2, z3, z4⟩ := h2 i hi2 hi
  have hni : ¬ ∃ j, j < i ∧ j < wc ∧ r j = r i := by
    intro ⟨j, j1, j2, j3⟩
    have t := h3 j i j1 hi2 hi
    rw [j3] at t
    exact ms_hv_ir t
  have := hz _ z1
  rw [ha _ z1, if_neg hni] at this
  exact z2 this
/-! a way as one number of base four -/
def ms_pk (S : Nat) : Nat → Nat → Nat
  | 0, _ => 0
  | p + 1, a => ms_pk S p (a / S) * 4 + a % S
theorem ms_pk_snoc {S p a t : Nat} (ht : t < S) : ms_pk S (p + 1) (a * S + t) = ms_pk S p a * 4 + t := by
  have h0 : 0 < S := by omega
  show ms_pk S p ((a * S + t) / S) * 4 + (a * S + t) % S = _
  rw [ms_last ht, Nat.add_comm (a * S) t, Nat.add_mul_div_right _ _ h0, Nat.div_eq_of_lt ht, Nat.zero_add]
theorem ms_pk_lt {S : Nat} (hS : 0 < S) (h3 : S ≤ 3) : ∀ (p a : Nat), ms_pk S p a < 4 ^ p
  | 0, _ => Nat.one_pos
  | p + 1, a => by
    have h1 := ms_pk_lt hS h3 p (a / S)
    have h2 : a % S < S := Nat.mod_lt _ hS
    show ms_pk S p (a / S) * 4 + a % S < 4 ^ (p + 1)
    rw [Nat.pow_succ]
    omega
theorem ms_pk_dg {S : Nat} (hS : 0 < S) (h3 : S ≤ 3) : ∀ (n k q : Nat), q < n → ms_pk S n k / 4 ^ (n - 1 - q) % 4 = ms_dg S n k q
  | 0, _, q, h => absurd h (Nat.not_lt_zero q)
  | n + 1, k, q, h => by
    have mk : k % S < S := Nat.mod_lt _ hS
    have ek : (k / S) * S + k % S = k := Nat.div_add_mod' k S
    have e1 : ms_pk S (n + 1) k = ms_pk S n (k / S) * 4 + k % S := rfl
    rw [e1]
    by_cases hq : q = n
    · subst hq
      have e2 : q + 1 - 1 - q = 0 := by omega
      unfold ms_dg
      rw [e2, Nat.pow_zero, Nat.pow_zero, Nat.div_one, Nat.div_one]
      omega
    · have hq2 : q < n := by omega
      have e2 : n + 1 - 1 - q = (n - 1 - q) + 1 := by omega
      have e3 : ms_dg S (n + 1) k q = ms_dg S n (k / S) q := by
        have := ms_dg_snoc (k := k / S) mk hq2
        rw [ek] at this
        exact this
      rw [e3, ← ms_pk_dg hS h3 n (k / S) q hq2, e2, ms_shift (by omega)]
/-! drawing: the number k whose units hold u -/
theorem ms_draw_uniq {f : Nat → Nat} {u k j : Nat} (h1 : ms_sum f k ≤ u) (h2 : u < ms_sum f (k + 1)) (h3 : ms_sum f j ≤ u) (h4 : u < ms_sum f (j + 1)) : k = j := by
  rcases Nat.lt_trichotomy k j with h | h | h
  · have := ms_sum_len (f := f) (show k + 1 ≤ j by omega)
    omega
  · exact h
  · have := ms_sum_len (f := f) (show j + 1 ≤ k by omega)
    omega
/-! fractions -/
theorem ms_gcd_step {a b : Nat} (hb : 0 < b) : Nat.gcd b (a % b) = Nat.gcd a b := by
  rw [Nat.gcd_comm b (a % b), ← Nat.gcd_rec, Nat.gcd_comm]
theorem ms_near {x y g t b : Nat} (hg : 0 < g) (hx : x = g * t) (hy : y = g * b) : (2 * (9 * x) + y) / (2 * y) = (18 * t + b) / (2 * b) := by
  have e1 : 2 * (9 * x) + y = g * (18 * t + b) := by
    rw [hx, hy, Nat.mul_add, ← Nat.mul_assoc, ← Nat.mul_assoc, ← Nat.mul_assoc, Nat.mul_comm g 18]
  have e2 : 2 * y = g * (2 * b) := by rw [hy, ← Nat.mul_assoc, ← Nat.mul_assoc, Nat.mul_comm g 2]
  rw [e1, e2, Nat.mul_div_mul_left _ _ hg]
theorem ms_near_le {x y : Nat} (h : x ≤ y) (hy : 0 < y) : (2 * (9 * x) + y) / (2 * y) ≤ 9 := by
  rw [← Nat.lt_succ_iff, Nat.div_lt_iff_lt_mul (by omega)]
  omega
