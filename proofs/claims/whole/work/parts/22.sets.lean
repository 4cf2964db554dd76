/-! SETS AS NUMBERS; what a Night holds -/
theorem x_or (a b : Nat) : nI a ||| nI b = nI (a ||| b) := by
  apply Int32.toBitVec_inj.mp
  show (BitVec.ofNat 32 a ||| BitVec.ofNat 32 b) = BitVec.ofNat 32 (a ||| b)
  rw [BitVec.ofNat_or]
theorem x_and (a b : Nat) : nI a &&& nI b = nI (a &&& b) := by
  apply Int32.toBitVec_inj.mp
  show (BitVec.ofNat 32 a &&& BitVec.ofNat 32 b) = BitVec.ofNat 32 (a &&& b)
  rw [BitVec.ofNat_and]
theorem x_shl1 : ∀ r, r < 7 → nI 1 <<< (nI r &&& 31) = nI (2 ^ r) := by decide +kernel
theorem x_bitn : ∀ m, m < 64 → ∀ r, r < 6 → ((nI m >>> (nI r &&& 31)) &&& nI 1) = nI (m / 2 ^ r % 2) := by decide +kernel
theorem x_clr : ∀ m, m < 64 → ∀ r, r < 6 → nI m &&& ((nI (2 ^ r)) ^^^ (-1)) = nI (m &&& (63 - 2 ^ r)) := by decide +kernel
theorem x_63 : ∀ r, r < 6 → ∀ i, i < 6 → (63 - 2 ^ r).testBit i = decide (¬ i = r) := by decide +kernel
def s_mask : Nat → (Nat → Bool) → Nat
  | 0, _ => 0
  | n + 1, f => if f n then s_mask n f ||| 2 ^ n else s_mask n f
theorem s_mask_lt (f : Nat → Bool) : ∀ n, s_mask n f < 2 ^ n
  | 0 => by show 0 < 1; omega
  | n + 1 => by
    have ih := s_mask_lt f n
    rw [s_mask]
    have h1 : 2 ^ n < 2 ^ (n + 1) := Nat.pow_lt_pow_right (by omega) (by omega)
    split
    · exact Nat.or_lt_two_pow (by omega) h1
    · omega
theorem s_mask_bit (f : Nat → Bool) (i : Nat) : ∀ n, (s_mask n f).testBit i = (decide (i < n) && f i)
  | 0 => by simp [s_mask]
  | n + 1 => by
    rw [s_mask]
    by_cases hf : f n = true
    · rw [if_pos hf, Nat.testBit_or, s_mask_bit f i n, Nat.testBit_two_pow]
      by_cases hi : n = i
      · subst hi; simp [hf]
      · have e1 : decide (i < n + 1) = decide (i < n) := by simp; omega
        simp [hi, e1]
    · rw [if_neg hf, s_mask_bit f i n]
      by_cases hi : n = i
      · subst hi; simp [hf]
      · have e1 : decide (i < n + 1) = decide (i < n) := by simp; omega
        rw [e1]
theorem s_set_mask (f : Nat → Bool) : ∀ n, n ≤ 7 → s_set n f = nI (s_mask n f)
  | 0, _ => rfl
  | n + 1, h => by
    rw [s_set, s_mask, s_set_mask f n (by omega), x_shl1 n (by omega), x_or]
    split <;> rfl
theorem s_mask64 {n : Nat} (hn : n ≤ 6) (f : Nat → Bool) : s_mask n f < 64 := Nat.lt_of_lt_of_le (s_mask_lt f n) (by have := Nat.pow_le_pow_right (show 0 < 2 by omega) hn; exact this)
theorem s_mask_ext {n m : Nat} {f : Nat → Bool} (hm : m < 64) (hn : n ≤ 6) (h : ∀ i, i < 6 → m.testBit i = (decide (i < n) && f i)) : m = s_mask n f := by
  apply Nat.eq_of_testBit_eq
  intro i
  by_cases hi : i < 6
  · rw [h i hi, s_mask_bit]
  · have h1 : m < 2 ^ i := Nat.lt_of_lt_of_le hm (by have := Nat.pow_le_pow_right (show 0 < 2 by omega) (show 6 ≤ i by omega); exact this)
    have h2 : s_mask n f < 2 ^ i := Nat.lt_of_lt_of_le (s_mask64 hn f) (by have := Nat.pow_le_pow_right (show 0 < 2 by omega) (show 6 ≤ i by omega); exact this)
    rw [Nat.testBit_lt_two_pow h1, Nat.testBit_lt_two_pow h2]
theorem x_tb (m r : Nat) : nI (m / 2 ^ r % 2) = x_b (m.testBit r) := by
  rw [Nat.testBit_eq_decide_div_mod_eq]
  rcases Nat.mod_two_eq_zero_or_one (m / 2 ^ r) with h | h <;> rw [h] <;> rfl
/-- a place of a set, as it is asked -/
theorem s_bit {n : Nat} (hn : n ≤ 6) (f : Nat → Bool) {r : Nat} (hr : r < 6) : ((s_set n f >>> (nI r &&& 31)) &&& nI 1) = x_b (decide (r < n) && f r) := by
  rw [s_set_mask f n (by omega), x_bitn _ (s_mask64 hn f) r hr, x_tb, s_mask_bit]
theorem s_and {n : Nat} (hn : n ≤ 6) (f g : Nat → Bool) : s_set n f &&& s_set n g = s_set n (fun r => f r && g r) := by
  rw [s_set_mask f n (by omega), s_set_mask g n (by omega), s_set_mask _ n (by omega), x_and]
  congr 1
  refine s_mask_ext (Nat.lt_of_le_of_lt Nat.and_le_left (s_mask64 hn f)) hn (fun i _ => ?_)
  rw [Nat.testBit_and, s_mask_bit, s_mask_bit]
  cases decide (i < n) <;> simp
theorem s_one {n : Nat} (hn : n ≤ 6) {r : Nat} (hr : r < n) : nI 1 <<< (nI r &&& 31) = s_set n (fun i => decide (i = r)) := by
  rw [x_shl1 r (by omega), s_set_mask _ n (by omega)]
  congr 1
  have : 2 ^ r < 64 := Nat.lt_of_lt_of_le (Nat.pow_lt_pow_right (by omega) (show r < 6 by omega)) (by decide)
  refine s_mask_ext this hn (fun i _ => ?_)
  rw [Nat.testBit_two_pow]
  by_cases h : r = i
  · subst h; simp [hr]
  · have h2 : ¬ i = r := fun e => h e.symm
    simp [h, h2]
theorem s_none (n : Nat) : nI 0 = s_set n (fun _ => false) := by
  induction n with
  | zero => rfl
  | succ n ih => rw [s_set, if_neg (by decide)]; exact ih
theorem s_clear {n : Nat} (hn : n ≤ 6) (f : Nat → Bool) {r : Nat} (hr : r < 6) : s_set n f &&& ((nI 1 <<< (nI r &&& 31)) ^^^ (-1)) = s_set n (fun i => f i && decide (¬ i = r)) := by
  rw [s_set_mask f n (by omega), s_set_mask _ n (by omega), x_shl1 r (by omega), x_clr _ (s_mask64 hn f) r hr]
  congr 1
  refine s_mask_ext (Nat.lt_of_le_of_lt Nat.and_le_left (s_mask64 hn f)) hn (fun i hi => ?_)
  rw [Nat.testBit_and, s_mask_bit, x_63 r hr i hi, Bool.and_assoc]
theorem s_add {n : Nat} (hn : n ≤ 6) (f : Nat → Bool) {r : Nat} (hr : r < n) : s_set n f ||| (nI 1 <<< (nI r &&& 31)) = s_set n (fun i => f i || decide (i = r)) := by
  rw [s_one hn hr, s_set_mask f n (by omega), s_set_mask _ n (by omega), s_set_mask _ n (by omega), x_or]
  congr 1
  refine s_mask_ext (Nat.or_lt_two_pow (n := 6) (s_mask64 hn f) (s_mask64 hn _)) hn (fun i _ => ?_)
  rw [Nat.testBit_or, s_mask_bit, s_mask_bit]
  cases decide (i < n) <;> simp
/-- how many -/
def s_cnt : Nat → (Nat → Bool) → Nat
  | 0, _ => 0
  | n + 1, f => if f n then s_cnt n f + 1 else s_cnt n f
theorem s_cnt_le (f : Nat → Bool) : ∀ n, s_cnt n f ≤ n
  | 0 => Nat.le_refl 0
  | n + 1 => by have := s_cnt_le f n; rw [s_cnt]; split <;> omega
theorem s_cnt_cong {f g : Nat → Bool} : ∀ {n : Nat}, (∀ k, k < n → f k = g k) → s_cnt n f = s_cnt n g
  | 0, _ => rfl
  | n + 1, h => by rw [s_cnt, s_cnt, s_cnt_cong (fun k hk => h k (by omega)), h n (by omega)]
/-- hours, nights, sayings, what burns, where, out, whose, whose word was last by each reading -/
abbrev xQ : Type := Nat × Nat × Nat × (Nat → Nat) × (Nat → Nat) × (Nat → Bool) × (Nat → Int32) × (Nat → Nat → Int32)
abbrev q_hr (Q : xQ) : Nat := Q.1
abbrev q_nt (Q : xQ) : Nat := Q.2.1
abbrev q_sy (Q : xQ) : Nat := Q.2.2.1
abbrev q_bu (Q : xQ) : Nat → Nat := Q.2.2.2.1
abbrev q_pl (Q : xQ) : Nat → Nat := Q.2.2.2.2.1
abbrev q_ou (Q : xQ) : Nat → Bool := Q.2.2.2.2.2.1
abbrev q_ow (Q : xQ) : Nat → Int32 := Q.2.2.2.2.2.2.1
abbrev q_la (Q : xQ) : Nat → Nat → Int32 := Q.2.2.2.2.2.2.2
def x_Night (h : xH) (b R P : Nat) (Q : xQ) : Prop := 2 ≤ b ∧ h[b]? = some (.inr (2, [.int (nI (q_hr Q)), .int (nI (q_nt Q)), .int (nI (q_sy Q)), .int (s_set 6 (q_ou Q)), .ref (b + 1), .ref (b + 2), .ref (b + 3), .ref (b + 4)])) ∧
  (∃ f, h[b + 1]? = some (x_ia 6 f) ∧ ∀ r, r < R → f r = nI (q_bu Q r)) ∧ h[b + 2]? = some (x_ia 6 (q_ow Q)) ∧ (∃ f, h[b + 3]? = some (x_ia 6 f) ∧ ∀ p, p < P → f p = nI (q_pl Q p)) ∧ h[b + 4]? = some (x_qa 4 4 (b + 4)) ∧ ∀ k, k < 4 → h[b + 4 + 1 + k]? = some (x_ia 6 (q_la Q k))
theorem x_Night.kept {h h' : xH} {b R P : Nat} {Q : xQ} (H : x_Night h b R P Q) (hq : ∀ q, b ≤ q → q < b + 9 → h'[q]? = h[q]?) : x_Night h' b R P Q := by
  obtain ⟨h2, g0, ⟨f1, g1, e1⟩, g2, ⟨f3, g3, e3⟩, g4, g5⟩ := H
  exact ⟨h2, (hq _ (by omega) (by omega)).trans g0, ⟨f1, (hq _ (by omega) (by omega)).trans g1, e1⟩, (hq _ (by omega) (by omega)).trans g2, ⟨f3, (hq _ (by omega) (by omega)).trans g3, e3⟩, (hq _ (by omega) (by omega)).trans g4, fun k hk => (hq _ (by omega) (by omega)).trans (g5 k hk)⟩
theorem x_Night.less {h : xH} {b R P : Nat} {Q : xQ} (H : x_Night h b R P Q) : x_Night h b 0 0 Q := by
  obtain ⟨h2, g0, ⟨f1, g1, e1⟩, g2, ⟨f3, g3, e3⟩, g4, g5⟩ := H
  exact ⟨h2, g0, ⟨f1, g1, fun r hr => absurd hr (Nat.not_lt_zero r)⟩, g2, ⟨f3, g3, fun r hr => absurd hr (Nat.not_lt_zero r)⟩, g4, g5⟩
/-- bounds of a Night in a house of N hours, R rooms, P heirs -/
def x_QB (N R P : Nat) (Q : xQ) : Prop := q_hr Q ≤ 20 ∧ (q_hr Q < N ∨ N = 0) ∧ q_nt Q ≤ 100000 ∧ q_sy Q ≤ 200000 ∧ (∀ r, r < R → q_bu Q r ≤ 20) ∧ (∀ p, p < P → q_pl Q p < R) ∧ (∀ r, R ≤ r → q_ou Q r = false) ∧ (∀ r, r < R → q_ow Q r = -1 ∨ ∃ p, p < 6 ∧ q_ow Q r = nI p) ∧ ∀ k r, k < 4 → r < R → q_la Q k r = -1 ∨ ∃ p, p < 6 ∧ q_la Q k r = nI p
def s_lit (Q : xQ) (hr r : Nat) : Bool := decide (hr < q_bu Q r) && !q_ou Q r
/-- rooms whose last word a saying would be -/
def s_reach (N : Nat) (F : xF) (Q : xQ) (p f hr k : Nat) (wd : Nat → Bool) (r : Nat) : Bool :=
  if hr < N / 2 ∧ (F 4 p = 1 ∨ k = 2) then false else if F 4 p = 3 then decide (r = f) else if F 4 p = 4 then (s_lit Q hr f && wd f) && decide (r = f) else (if k = 1 then decide (r = f) else s_heard F p f r) && s_lit Q hr r
def s_wd (Q : xQ) (k r : Nat) : Bool := decide (¬ q_la Q k r = -1)
def s_will (Q : xQ) (r k : Nat) : Int32 := if q_la Q k r = -1 then q_ow Q r else q_la Q k r
def s_sure (Q : xQ) (r : Nat) : Bool := decide (s_will Q r 1 = s_will Q r 0 ∧ s_will Q r 2 = s_will Q r 0 ∧ s_will Q r 3 = s_will Q r 0 ∧ ¬ s_will Q r 0 = -1)
def s_counts (N : Nat) (F : xF) (Q : xQ) (p r : Nat) : Bool := s_reach N F Q p (q_pl Q p) (q_hr Q) 0 (s_wd Q 0) r && decide (¬ q_la Q 0 r = nI (s_name F p 0))
def s_worth (F : xF) (Q : xQ) (r p : Nat) : Bool := s_heard F p (q_pl Q p) r
def s_own (Q : xQ) (p : Int32) (r : Nat) : Bool := decide (q_ow Q r = p)
/-- the greatest holder of p heirs, and how many -/
def s_hold (R : Nat) (Q : xQ) : Nat → Int32 × Nat
  | 0 => (-1, 0)
  | p + 1 => if (s_hold R Q p).2 < s_cnt R (s_own Q (nI p)) then (nI p, s_cnt R (s_own Q (nI p))) else s_hold R Q p
