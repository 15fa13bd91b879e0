/-! sums of naturals below a bound -/
def ms_sum (f : Nat → Nat) : Nat → Nat
  | 0 => 0
  | n + 1 => ms_sum f n + f n
theorem ms_sum_succ (f : Nat → Nat) (n : Nat) : ms_sum f (n + 1) = ms_sum f n + f n := rfl
theorem ms_sum_congr {f g : Nat → Nat} : ∀ {n : Nat}, (∀ k, k < n → f k = g k) → ms_sum f n = ms_sum g n
  | 0, _ => rfl
  | n + 1, h => by
    rw [ms_sum_succ, ms_sum_succ, ms_sum_congr (fun k hk => h k (Nat.lt_succ_of_lt hk)), h n (Nat.lt_succ_self n)]
theorem ms_sum_zero : ∀ n : Nat, ms_sum (fun _ => 0) n = 0
  | 0 => rfl
  | n + 1 => by rw [ms_sum_succ, ms_sum_zero n]
theorem ms_sum_add (f g : Nat → Nat) : ∀ n : Nat, ms_sum (fun k => f k + g k) n = ms_sum f n + ms_sum g n
  | 0 => rfl
  | n + 1 => by rw [ms_sum_succ, ms_sum_succ, ms_sum_succ, ms_sum_add f g n]; omega
theorem ms_sum_mull (c : Nat) (f : Nat → Nat) : ∀ n : Nat, ms_sum (fun k => c * f k) n = c * ms_sum f n
  | 0 => rfl
  | n + 1 => by rw [ms_sum_succ, ms_sum_succ, ms_sum_mull c f n, Nat.mul_add]
theorem ms_sum_mulr (c : Nat) (f : Nat → Nat) : ∀ n : Nat, ms_sum (fun k => f k * c) n = ms_sum f n * c
  | 0 => (Nat.zero_mul c).symm
  | n + 1 => by rw [ms_sum_succ, ms_sum_succ, ms_sum_mulr c f n, Nat.add_mul]
theorem ms_sum_split (f : Nat → Nat) (a : Nat) : ∀ b : Nat, ms_sum f (a + b) = ms_sum f a + ms_sum (fun k => f (a + k)) b
  | 0 => rfl
  | b + 1 => by
    rw [← Nat.add_assoc, ms_sum_succ, ms_sum_succ, ms_sum_split f a b]; omega
theorem ms_sum_block (f : Nat → Nat) (b : Nat) : ∀ a : Nat, ms_sum f (a * b) = ms_sum (fun i => ms_sum (fun j => f (i * b + j)) b) a
  | 0 => by rw [Nat.zero_mul]; rfl
  | a + 1 => by rw [Nat.succ_mul, ms_sum_split, ms_sum_block f b a, ms_sum_succ]
theorem ms_sum_swap (f : Nat → Nat → Nat) (m : Nat) : ∀ n : Nat, ms_sum (fun i => ms_sum (f i) m) n = ms_sum (fun j => ms_sum (fun i => f i j) n) m
  | 0 => (ms_sum_zero m).symm
  | n + 1 => by
    rw [ms_sum_succ, ms_sum_swap f m n, ← ms_sum_add]
    exact ms_sum_congr (fun k _ => rfl)
theorem ms_sum_eq0 {f : Nat → Nat} : ∀ {n : Nat}, (∀ k, k < n → f k = 0) → ms_sum f n = 0
  | 0, _ => rfl
  | n + 1, h => by rw [ms_sum_succ, ms_sum_eq0 (fun k hk => h k (Nat.lt_succ_of_lt hk)), h n (Nat.lt_succ_self n)]
theorem ms_sum_one {f : Nat → Nat} {a : Nat} : ∀ {n : Nat}, a < n → (∀ k, k < n → k ≠ a → f k = 0) → ms_sum f n = f a
  | 0, h, _ => absurd h (Nat.not_lt_zero a)
  | n + 1, h, hz => by
    rw [ms_sum_succ]
    by_cases e : a = n
    · subst e
      rw [ms_sum_eq0 (fun k hk => hz k (Nat.lt_succ_of_lt hk) (Nat.ne_of_lt hk)), Nat.zero_add]
    · have hl : a < n := by omega
      rw [ms_sum_one hl (fun k hk => hz k (Nat.lt_succ_of_lt hk)), hz n (Nat.lt_succ_self n) (fun q => e q.symm), Nat.add_zero]
theorem ms_sum_le {f : Nat → Nat} {c : Nat} : ∀ {n : Nat}, (∀ k, k < n → f k ≤ c) → ms_sum f n ≤ n * c
  | 0, _ => Nat.zero_le _
  | n + 1, h => by
    rw [ms_sum_succ, Nat.succ_mul]
    exact Nat.add_le_add (ms_sum_le (fun k hk => h k (Nat.lt_succ_of_lt hk))) (h n (Nat.lt_succ_self n))
theorem ms_sum_mono {f g : Nat → Nat} : ∀ {n : Nat}, (∀ k, k < n → f k ≤ g k) → ms_sum f n ≤ ms_sum g n
  | 0, _ => Nat.zero_le _
  | n + 1, h => by
    rw [ms_sum_succ, ms_sum_succ]
    exact Nat.add_le_add (ms_sum_mono (fun k hk => h k (Nat.lt_succ_of_lt hk))) (h n (Nat.lt_succ_self n))
theorem ms_sum_len {f : Nat → Nat} {a b : Nat} (h : a ≤ b) : ms_sum f a ≤ ms_sum f b := by
  have e : b = a + (b - a) := by omega
  rw [e, ms_sum_split]
  exact Nat.le_add_right _ _
theorem ms_le_sum {f : Nat → Nat} {k n : Nat} (h : k < n) : f k ≤ ms_sum f n := by
  have h1 : ms_sum f (k + 1) ≤ ms_sum f n := ms_sum_len h
  rw [ms_sum_succ] at h1
  omega
theorem ms_of_sum0 {f : Nat → Nat} {n : Nat} (h : ms_sum f n = 0) {k : Nat} (hk : k < n) : f k = 0 := by
  have h1 := ms_le_sum (f := f) hk
  omega
/-! the product of a way's entries, from place a on, c of them -/
def ms_pr (e : Nat → Nat → Nat → Nat) (w : Nat → Nat) (a : Nat) : Nat → Nat
  | 0 => 1
  | c + 1 => ms_pr e w a c * e (a + c) (w (a + c - 1)) (w (a + c))
theorem ms_pr_succ (e : Nat → Nat → Nat → Nat) (w : Nat → Nat) (a c : Nat) : ms_pr e w a (c + 1) = ms_pr e w a c * e (a + c) (w (a + c - 1)) (w (a + c)) := rfl
theorem ms_pr_congr {e : Nat → Nat → Nat → Nat} {w v : Nat → Nat} {a : Nat} : ∀ {c : Nat}, (∀ q, q < a + c → a ≤ q + 1 → w q = v q) → ms_pr e w a c = ms_pr e v a c
  | 0, _ => rfl
  | c + 1, h => by
    rw [ms_pr_succ, ms_pr_succ, ms_pr_congr (fun q h1 h2 => h q (by omega) h2), h (a + c - 1) (by omega) (by omega), h (a + c) (by omega) (by omega)]
theorem ms_pr_e {e f : Nat → Nat → Nat → Nat} {w : Nat → Nat} {a : Nat} : ∀ {c : Nat}, (∀ q, a ≤ q → q < a + c → e q (w (q - 1)) (w q) = f q (w (q - 1)) (w q)) → ms_pr e w a c = ms_pr f w a c
  | 0, _ => rfl
  | c + 1, h => by
    rw [ms_pr_succ, ms_pr_succ, ms_pr_e (fun q h1 h2 => h q h1 (by omega)), h (a + c) (by omega) (by omega)]
theorem ms_pr_split (e : Nat → Nat → Nat → Nat) (w : Nat → Nat) (a c : Nat) : ∀ d : Nat, ms_pr e w a (c + d) = ms_pr e w a c * ms_pr e w (a + c) d
  | 0 => (Nat.mul_one _).symm
  | d + 1 => by
    rw [← Nat.add_assoc c d 1, ms_pr_succ, ms_pr_succ, ms_pr_split e w a c d, Nat.mul_assoc, Nat.add_assoc]
theorem ms_pr_one (e : Nat → Nat → Nat → Nat) (w : Nat → Nat) (a : Nat) : ms_pr e w a 1 = e a (w (a - 1)) (w a) := by
  rw [ms_pr_succ]
  show 1 * _ = _
  rw [Nat.one_mul, Nat.add_zero]
theorem ms_pr_head (e : Nat → Nat → Nat → Nat) (w : Nat → Nat) (a c : Nat) : ms_pr e w a (c + 1) = e a (w (a - 1)) (w a) * ms_pr e w (a + 1) c := by
  rw [Nat.add_comm c 1, ms_pr_split, ms_pr_one]
theorem ms_pr_le {e : Nat → Nat → Nat → Nat} {w : Nat → Nat} {a : Nat} {b : Nat} : ∀ {c : Nat}, (∀ q, a ≤ q → q < a + c → e q (w (q - 1)) (w q) ≤ b) → ms_pr e w a c ≤ b ^ c
  | 0, _ => Nat.le_refl _
  | c + 1, h => by
    rw [ms_pr_succ, Nat.pow_succ]
    exact Nat.mul_le_mul (ms_pr_le (fun q h1 h2 => h q h1 (by omega))) (h (a + c) (by omega) (by omega))
/-! digits -/
theorem ms_pos {S : Nat} (h : 0 < S) (r : Nat) : 0 < S ^ r := Nat.pow_pos h
theorem ms_top {S r t b : Nat} (hb : b < S ^ r) : (t * S ^ r + b) / S ^ r = t := by
  have h0 : 0 < S ^ r := by omega
  rw [Nat.add_comm, Nat.add_mul_div_right _ _ h0, Nat.div_eq_of_lt hb, Nat.zero_add]
theorem ms_low {S r t b j : Nat} (hS : 0 < S) (hj : j < r) : (t * S ^ r + b) / S ^ j % S = b / S ^ j % S := by
  have e : S ^ r = S ^ (r - j - 1) * S * S ^ j := by
    rw [← Nat.pow_succ, ← Nat.pow_add]
    congr 1
    omega
  rw [e, ← Nat.mul_assoc, Nat.add_comm, Nat.add_mul_div_right _ _ (ms_pos hS j), ← Nat.mul_assoc, Nat.add_mul_mod_self_right]
theorem ms_shift {S k t j : Nat} (ht : t < S) : (k * S + t) / S ^ (j + 1) = k / S ^ j := by
  have h0 : 0 < S := by omega
  rw [Nat.pow_succ, Nat.mul_comm (S ^ j) S, ← Nat.div_div_eq_div_mul, Nat.add_comm (k * S) t, Nat.add_mul_div_right _ _ h0, Nat.div_eq_of_lt ht, Nat.zero_add]
theorem ms_last {S k t : Nat} (ht : t < S) : (k * S + t) % S = t := by
  rw [Nat.add_comm, Nat.add_mul_mod_self_right, Nat.mod_eq_of_lt ht]
theorem ms_high {S r t b j : Nat} (hb : b < S ^ r) : (t * S ^ r + b) / S ^ (r + j) = t / S ^ j := by
  rw [Nat.pow_add, ← Nat.div_div_eq_div_mul, ms_top hb]
/-- the state at place p of the way of number k, of n places -/
def ms_dg (S n k p : Nat) : Nat := k / S ^ (n - 1 - p) % S
theorem ms_dg_lt {S n k p : Nat} (hS : 0 < S) : ms_dg S n k p < S := Nat.mod_lt _ hS
theorem ms_dg_snoc {S n k t q : Nat} (ht : t < S) (hq : q < n) : ms_dg S (n + 1) (k * S + t) q = ms_dg S n k q := by
  unfold ms_dg
  have e : n + 1 - 1 - q = (n - 1 - q) + 1 := by omega
  rw [e, ms_shift ht]
theorem ms_dg_last {S n k t : Nat} (ht : t < S) : ms_dg S (n + 1) (k * S + t) n = t := by
  unfold ms_dg
  have e : n + 1 - 1 - n = 0 := by omega
  rw [e, Nat.pow_zero, Nat.div_one, ms_last ht]
/-- two numbers of n digits with the same digits are the same -/
theorem ms_dg_inj {S : Nat} (hS : 0 < S) : ∀ {n k j : Nat}, k < S ^ n → j < S ^ n → (∀ q, q < n → ms_dg S n k q = ms_dg S n j q) → k = j
  | 0, k, j, hk, hj, _ => by
    rw [Nat.pow_zero] at hk hj
    omega
  | n + 1, k, j, hk, hj, h => by
    have ek : k = (k / S) * S + k % S := (Nat.div_add_mod' k S).symm
    have ej : j = (j / S) * S + j % S := (Nat.div_add_mod' j S).symm
    have mk : k % S < S := Nat.mod_lt _ hS
    have mj : j % S < S := Nat.mod_lt _ hS
    have dk : k / S < S ^ n := by
      rw [Nat.div_lt_iff_lt_mul hS, ← Nat.pow_succ]; exact hk
    have dj : j / S < S ^ n := by
      rw [Nat.div_lt_iff_lt_mul hS, ← Nat.pow_succ]; exact hj
    have h1 : k / S = j / S := ms_dg_inj hS dk dj (fun q hq => by
      have h2 := h q (Nat.lt_succ_of_lt hq)
      rw [ek, ej, ms_dg_snoc mk hq, ms_dg_snoc mj hq] at h2
      exact h2)
    have h3 := h n (Nat.lt_succ_self n)
    rw [ek, ej, ms_dg_last mk, ms_dg_last mj] at h3
    rw [ek, ej, h1, h3]
/-! forward and backward sums -/
def ms_bf (e : Nat → Nat → Nat → Nat) (S : Nat) : Nat → Nat → Nat
  | 0, s => e 0 0 s
  | p + 1, s => ms_sum (fun t => ms_bf e S p t * e (p + 1) t s) S
/-- r places are left behind; n in all -/
def ms_bh (e : Nat → Nat → Nat → Nat) (S n : Nat) : Nat → Nat → Nat
  | 0, _ => 1
  | r + 1, s => ms_sum (fun t => e (n - 1 - r) s t * ms_bh e S n r t) S
/-- the weight of the way of number k, of n places -/
def ms_wt (e : Nat → Nat → Nat → Nat) (S n k : Nat) : Nat := ms_pr e (ms_dg S n k) 0 n
/-- the way of number a up to place p - 1, then s -/
def ms_wa (S p a s : Nat) : Nat → Nat := fun q => if q < p then ms_dg S p a q else s
/-- s up to place p, behind it the way of number b of the places p + 1 .. n - 1 -/
def ms_wb (S n p s b : Nat) : Nat → Nat := fun q => if q ≤ p then s else b / S ^ (n - 1 - q) % S
def ms_af (e : Nat → Nat → Nat → Nat) (S p a s : Nat) : Nat := ms_pr e (ms_wa S p a s) 0 (p + 1)
def ms_bg (e : Nat → Nat → Nat → Nat) (S n p s b : Nat) : Nat := ms_pr e (ms_wb S n p s b) (p + 1) (n - 1 - p)
theorem ms_af_0 {e : Nat → Nat → Nat → Nat} (he : ∀ x y, e 0 x y = e 0 0 y) (S a s : Nat) : ms_af e S 0 a s = e 0 0 s := by
  unfold ms_af
  rw [ms_pr_one, he]
  simp [ms_wa]
theorem ms_af_succ (e : Nat → Nat → Nat → Nat) {S p a t s : Nat} (ht : t < S) : ms_af e S (p + 1) (a * S + t) s = ms_af e S p a t * e (p + 1) t s := by
  unfold ms_af
  rw [ms_pr_succ, Nat.zero_add]
  have h1 : ms_wa S (p + 1) (a * S + t) s (p + 1) = s := by simp [ms_wa]
  have h2 : ms_wa S (p + 1) (a * S + t) s (p + 1 - 1) = t := by
    simp only [ms_wa, Nat.add_sub_cancel]
    rw [if_pos (Nat.lt_succ_self p), ms_dg_last ht]
  rw [h1, h2]
  congr 1
  refine ms_pr_congr (fun q h3 _ => ?_)
  have h4 : q < p + 1 := by omega
  simp only [ms_wa]
  rw [if_pos h4]
  by_cases h5 : q < p
  · rw [if_pos h5, ms_dg_snoc ht h5]
  · have h6 : q = p := by omega
    rw [if_neg h5, h6, ms_dg_last ht]
theorem ms_bf_sum {e : Nat → Nat → Nat → Nat} (he : ∀ x y, e 0 x y = e 0 0 y) (S : Nat) : ∀ (p s : Nat), ms_sum (fun a => ms_af e S p a s) (S ^ p) = ms_bf e S p s
  | 0, s => by
    rw [Nat.pow_zero, ms_sum_succ]
    show 0 + _ = _
    rw [Nat.zero_add, ms_af_0 he]
    rfl
  | p + 1, s => by
    rw [Nat.pow_succ, ms_sum_block]
    have h1 : ms_sum (fun i => ms_sum (fun j => ms_af e S (p + 1) (i * S + j) s) S) (S ^ p) = ms_sum (fun i => ms_sum (fun j => ms_af e S p i j * e (p + 1) j s) S) (S ^ p) :=
      ms_sum_congr (fun i _ => ms_sum_congr (fun j hj => ms_af_succ e hj))
    rw [h1, ms_sum_swap (fun i j => ms_af e S p i j * e (p + 1) j s)]
    refine ms_sum_congr (fun t _ => ?_)
    rw [ms_sum_mulr, ms_bf_sum he S p t]
theorem ms_bg_0 (e : Nat → Nat → Nat → Nat) {S n p s b : Nat} (h : n - 1 - p = 0) : ms_bg e S n p s b = 1 := by
  unfold ms_bg
  rw [h]
  rfl
theorem ms_bg_succ (e : Nat → Nat → Nat → Nat) {S n p s t b r : Nat} (hr : n - 1 - p = r + 1) (ht : t < S) (hb : b < S ^ r) : ms_bg e S n p s (t * S ^ r + b) = e (p + 1) s t * ms_bg e S n (p + 1) t b := by
  have hS : 0 < S := by omega
  unfold ms_bg
  have hr2 : n - 1 - (p + 1) = r := by omega
  rw [hr, hr2, ms_pr_head]
  have h1 : ms_wb S n p s (t * S ^ r + b) (p + 1 - 1) = s := by simp [ms_wb]
  have h2 : ms_wb S n p s (t * S ^ r + b) (p + 1) = t := by
    simp only [ms_wb]
    rw [if_neg (by omega), hr2, ms_top hb, Nat.mod_eq_of_lt ht]
  rw [h1, h2]
  congr 1
  refine ms_pr_congr (fun q h3 h4 => ?_)
  simp only [ms_wb]
  by_cases h5 : q ≤ p + 1
  · have h6 : q = p + 1 := by omega
    subst h6
    rw [if_neg (by omega), if_pos (Nat.le_refl _), hr2, ms_top hb, Nat.mod_eq_of_lt ht]
  · rw [if_neg (by omega), if_neg h5, ms_low hS (by omega)]
theorem ms_bh_sum {e : Nat → Nat → Nat → Nat} {S n : Nat} : ∀ (r p s : Nat), n - 1 - p = r → (r = 0 ∨ p < n) → ms_sum (fun b => ms_bg e S n p s b) (S ^ r) = ms_bh e S n r s
  | 0, p, s, h, _ => by
    rw [Nat.pow_zero, ms_sum_succ]
    show 0 + _ = _
    rw [Nat.zero_add, ms_bg_0 e h]
    rfl
  | r + 1, p, s, h, _ => by
    rw [Nat.pow_succ, Nat.mul_comm, ms_sum_block]
    have hp : n - 1 - r = p + 1 := by omega
    show _ = ms_sum (fun t => e (n - 1 - r) s t * ms_bh e S n r t) S
    rw [hp]
    refine ms_sum_congr (fun t ht => ?_)
    rw [← ms_bh_sum r (p + 1) t (by omega) (by omega), ← ms_sum_mull]
    exact ms_sum_congr (fun b hb => ms_bg_succ e h ht hb)
/-- a way cut at a place -/
theorem ms_wt_cut (e : Nat → Nat → Nat → Nat) {S n p r a t b : Nat} (hn : n = p + 1 + r) (ht : t < S) (hb : b < S ^ r) : ms_wt e S n ((a * S + t) * S ^ r + b) = ms_af e S p a t * ms_bg e S n p t b := by
  have hS : 0 < S := by omega
  unfold ms_wt ms_af ms_bg
  have hr : n - 1 - p = r := by omega
  rw [hr]
  have hn' : n = (p + 1) + r := hn
  conv => lhs; rw [hn', ms_pr_split, Nat.zero_add]
  have dhi : ∀ q, q < p + 1 → ms_dg S (p + 1 + r) ((a * S + t) * S ^ r + b) q = ms_wa S p a t q := by
    intro q hq
    simp only [ms_wa]
    unfold ms_dg
    have e1 : p + 1 + r - 1 - q = r + (p - q) := by omega
    rw [e1, ms_high hb]
    by_cases h5 : q < p
    · have e2 : p - q = (p - 1 - q) + 1 := by omega
      rw [if_pos h5, e2, ms_shift ht]
    · have e2 : p - q = 0 := by omega
      rw [if_neg h5, e2, Nat.pow_zero, Nat.div_one, ms_last ht]
  have dlo : ∀ q, q < p + 1 + r → p ≤ q → ms_dg S (p + 1 + r) ((a * S + t) * S ^ r + b) q = ms_wb S (p + 1 + r) p t b q := by
    intro q hq hpq
    by_cases h5 : q = p
    · subst h5
      rw [dhi q (by omega)]
      simp [ms_wa, ms_wb]
    · simp only [ms_wb]
      rw [if_neg (by omega)]
      unfold ms_dg
      rw [ms_low hS (by omega)]
  rw [ms_pr_congr (w := ms_dg S (p + 1 + r) ((a * S + t) * S ^ r + b)) (v := ms_wa S p a t) (fun q h1 _ => dhi q (by omega)), ms_pr_congr (w := ms_dg S (p + 1 + r) ((a * S + t) * S ^ r + b)) (v := ms_wb S (p + 1 + r) p t b) (fun q h1 h2 => dlo q (by omega) (by omega)), ← hn]
/-- all ways through t at place p: any sum over all numbers, cut at the place -/
theorem ms_sum_cut (f : Nat → Nat) {S n p r : Nat} (hn : n = p + 1 + r) : ms_sum f (S ^ n) = ms_sum (fun a => ms_sum (fun t => ms_sum (fun b => f ((a * S + t) * S ^ r + b)) (S ^ r)) S) (S ^ p) := by
  have h1 : S ^ n = S ^ p * S * S ^ r := by rw [hn, Nat.pow_add, Nat.pow_succ]
  rw [h1, ms_sum_block f, ms_sum_block (fun i => ms_sum (fun j => f (i * S ^ r + j)) (S ^ r))]
theorem ms_cut_dg {S n p r a t b : Nat} (hn : n = p + 1 + r) (ht : t < S) (hb : b < S ^ r) : ms_dg S n ((a * S + t) * S ^ r + b) p = t := by
  unfold ms_dg
  have e1 : n - 1 - p = r := by omega
  rw [e1, ms_top hb, ms_last ht]
/-- the ways through s at place p -/
theorem ms_through {e : Nat → Nat → Nat → Nat} (he : ∀ x y, e 0 x y = e 0 0 y) {S n p s : Nat} (hp : p < n) (hs : s < S) : ms_sum (fun k => ms_wt e S n k * (if ms_dg S n k p = s then 1 else 0)) (S ^ n) = ms_bf e S p s * ms_bh e S n (n - 1 - p) s := by
  have hn : n = p + 1 + (n - 1 - p) := by omega
  rw [ms_sum_cut _ hn]
  have h1 : ∀ a, a < S ^ p → ms_sum (fun t => ms_sum (fun b => ms_wt e S n ((a * S + t) * S ^ (n - 1 - p) + b) * (if ms_dg S n ((a * S + t) * S ^ (n - 1 - p) + b) p = s then 1 else 0)) (S ^ (n - 1 - p))) S = ms_af e S p a s * ms_bh e S n (n - 1 - p) s := by
    intro a _
    rw [ms_sum_one hs (fun t ht hne => ms_sum_eq0 (fun b hb => by rw [ms_cut_dg hn ht hb, if_neg hne, Nat.mul_zero]))]
    rw [← ms_bh_sum (n - 1 - p) p s rfl (Or.inr hp), ← ms_sum_mull]
    exact ms_sum_congr (fun b hb => by rw [ms_cut_dg hn hs hb, if_pos rfl, Nat.mul_one, ms_wt_cut e hn hs hb])
  rw [ms_sum_congr h1, ms_sum_mulr, ms_bf_sum he]
/-- all ways -/
theorem ms_total {e : Nat → Nat → Nat → Nat} (he : ∀ x y, e 0 x y = e 0 0 y) {S n : Nat} (hn0 : 0 < n) : ms_sum (fun k => ms_wt e S n k) (S ^ n) = ms_sum (fun s => ms_bf e S (n - 1) s) S := by
  have hn : n = (n - 1) + 1 + 0 := by omega
  rw [ms_sum_cut _ hn, ms_sum_swap (fun a t => ms_sum (fun b => ms_wt e S n ((a * S + t) * S ^ 0 + b)) (S ^ 0))]
  refine ms_sum_congr (fun t ht => ?_)
  rw [← ms_bf_sum he]
  refine ms_sum_congr (fun a _ => ?_)
  rw [Nat.pow_zero, ms_sum_succ]
  show 0 + _ = _
  have h2 := ms_wt_cut e (a := a) hn ht (show (0 : Nat) < S ^ 0 by rw [Nat.pow_zero]; exact Nat.one_pos)
  rw [Nat.pow_zero] at h2
  rw [Nat.zero_add, h2, ms_bg_0 e (by omega), Nat.mul_one]
/-- the ways that step from s at place p to t -/
theorem ms_stepping {e : Nat → Nat → Nat → Nat} (he : ∀ x y, e 0 x y = e 0 0 y) {S n p s t : Nat} (hp : p + 1 < n) (hs : s < S) (ht : t < S) : ms_sum (fun k => ms_wt e S n k * (if ms_dg S n k p = s ∧ ms_dg S n k (p + 1) = t then 1 else 0)) (S ^ n) = ms_bf e S p s * e (p + 1) s t * ms_bh e S n (n - 1 - (p + 1)) t := by
  have hn : n = p + 1 + ((n - 1 - (p + 1)) + 1) := by omega
  generalize hr : n - 1 - (p + 1) = r at hn
  rw [ms_sum_cut _ hn]
  have dnext : ∀ a u v b, v < S → b < S ^ r → ms_dg S n ((a * S + u) * S ^ (r + 1) + (v * S ^ r + b)) (p + 1) = v := by
    intro a u v b hv hb
    unfold ms_dg
    rw [hr, ms_low (by omega) (Nat.lt_succ_self r), ms_top hb, Nat.mod_eq_of_lt hv]
  have hlt : ∀ v b, v < S → b < S ^ r → v * S ^ r + b < S ^ (r + 1) := by
    intro v b hv hb
    rw [Nat.pow_succ, Nat.mul_comm (S ^ r) S]
    have : (v + 1) * S ^ r ≤ S * S ^ r := Nat.mul_le_mul_right _ hv
    rw [Nat.succ_mul] at this
    omega
  have h1 : ∀ a, a < S ^ p → ms_sum (fun u => ms_sum (fun b => ms_wt e S n ((a * S + u) * S ^ (r + 1) + b) * (if ms_dg S n ((a * S + u) * S ^ (r + 1) + b) p = s ∧ ms_dg S n ((a * S + u) * S ^ (r + 1) + b) (p + 1) = t then 1 else 0)) (S ^ (r + 1))) S = ms_af e S p a s * (e (p + 1) s t * ms_bh e S n r t) := by
    intro a _
    rw [ms_sum_one hs (fun u hu hne => ms_sum_eq0 (fun b hb => by rw [ms_cut_dg hn hu hb, if_neg (fun q => hne q.1), Nat.mul_zero]))]
    have hpow : S ^ (r + 1) = S * S ^ r := by rw [Nat.pow_succ, Nat.mul_comm]
    conv => lhs; rw [hpow]
    rw [← hpow, hpow, ms_sum_block, ← hpow]
    rw [ms_sum_one ht (fun v hv hne => ms_sum_eq0 (fun b hb => by rw [dnext a s v b hv hb, if_neg (fun q => hne q.2), Nat.mul_zero]))]
    rw [← ms_bh_sum (e := e) (S := S) (n := n) r (p + 1) t hr (Or.inr (by omega)), ← ms_sum_mull, ← ms_sum_mull]
    refine ms_sum_congr (fun b hb => ?_)
    rw [ms_cut_dg hn hs (hlt t b ht hb), dnext a s t b ht hb, if_pos ⟨rfl, rfl⟩, Nat.mul_one, ms_wt_cut e hn hs (hlt t b ht hb), ms_bg_succ e (by omega) ht hb]
  rw [ms_sum_congr h1, ms_sum_mulr, ms_bf_sum he, Nat.mul_assoc]
/-- what depends on entries in range alone -/
theorem ms_bf_congr {e f : Nat → Nat → Nat → Nat} {S n : Nat} (hS : 0 < S) (h : ∀ p s t, p < n → s < S → t < S → e p s t = f p s t) : ∀ {p s : Nat}, p < n → s < S → ms_bf e S p s = ms_bf f S p s
  | 0, s, hp, hs => h 0 0 s hp hS hs
  | p + 1, s, hp, hs => ms_sum_congr (fun t ht => by rw [ms_bf_congr hS h (by omega) ht, h (p + 1) t s hp ht hs])
theorem ms_bh_congr {e f : Nat → Nat → Nat → Nat} {S n : Nat} (h : ∀ p s t, p < n → s < S → t < S → e p s t = f p s t) : ∀ {r s : Nat}, r < n → s < S → ms_bh e S n r s = ms_bh f S n r s
  | 0, _, _, _ => rfl
  | r + 1, s, hr, hs => ms_sum_congr (fun t ht => by rw [ms_bh_congr h (by omega) ht, h (n - 1 - r) s t (by omega) hs ht])
theorem ms_wt_congr {e f : Nat → Nat → Nat → Nat} {S n k : Nat} (hS : 0 < S) (h : ∀ p s t, p < n → s < S → t < S → e p s t = f p s t) : ms_wt e S n k = ms_wt f S n k :=
  ms_pr_e (fun q _ h2 => h q _ _ (by omega) (ms_dg_lt hS) (ms_dg_lt hS))
theorem ms_wt_le {e : Nat → Nat → Nat → Nat} {S n k b : Nat} (hS : 0 < S) (h : ∀ p s t, p < n → s < S → t < S → e p s t ≤ b) : ms_wt e S n k ≤ b ^ n :=
  ms_pr_le (fun q _ h2 => h q _ _ (by omega) (ms_dg_lt hS) (ms_dg_lt hS))
