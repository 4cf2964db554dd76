/-! THE TEXT: letters, and how they are read -/
abbrev xE : Type := Nat × Int32 × Nat
def x_Text (h : xH) (b n : Nat) (tx : Nat → Nat) (E : xE) : Prop := 2 ≤ b ∧ n ≤ 240 ∧ E.1 ≤ 100 ∧ E.2.2 ≤ 300 ∧ (∀ i, i < n → tx i < 256) ∧ h[b]? = some (.inr (5, [.ref (b + 1), .int (nI n), .int (nI E.1), .int E.2.1, .int (nI E.2.2)])) ∧ ∃ f, h[b + 1]? = some (x_ia 240 f) ∧ ∀ i, i < n → f i = nI (tx i)
/-- only cell b is another -/
def x_f1 (h h' : xH) (b : Nat) : Prop := ∀ q, ¬ q = b → h'[q]? = h[q]?
theorem x_f1.rf (h : xH) (b : Nat) : x_f1 h h b := fun _ _ => rfl
theorem x_f1.trans {h g k : xH} {b : Nat} (a : x_f1 h g b) (c : x_f1 g k b) : x_f1 h k b := fun q hq => (c q hq).trans (a q hq)
theorem x_f1.set {h g : xH} {b : Nat} (a : x_f1 h g b) (e : xC) : x_f1 h (g.set b e) b := fun q hq => by rw [List.getElem?_set_ne (fun z => hq z.symm)]; exact a q hq
theorem x_Text.obj {h : xH} {b n : Nat} {tx : Nat → Nat} {E : xE} (H : x_Text h b n tx E) (fk : Nat) (fa : Int32) (at_ : Nat) (h1 : fk ≤ 100) (h2 : at_ ≤ 300) : x_Text (h.set b (.inr (5, [.ref (b + 1), .int (nI n), .int (nI fk), .int fa, .int (nI at_)]))) b n tx (fk, fa, at_) := by
  obtain ⟨a1, a2, a3, a4, a5, a6, f, a7, a8⟩ := H
  exact ⟨a1, a2, h1, h2, a5, List.getElem?_set_self (List.getElem?_eq_some_iff.mp a6).1, f, (List.getElem?_set_ne (by omega)).trans a7, a8⟩
theorem x_Text.kept {h h' : xH} {b n : Nat} {tx : Nat → Nat} {E : xE} (H : x_Text h b n tx E) (h0 : h'[b]? = h[b]?) (h1 : h'[b + 1]? = h[b + 1]?) : x_Text h' b n tx E := by
  obtain ⟨a1, a2, a3, a4, a5, a6, f, a7, a8⟩ := H
  exact ⟨a1, a2, a3, a4, a5, h0.trans a6, f, h1.trans a7, a8⟩
def s_skipf (tx : Nat → Nat) (n : Nat) : Nat → Nat → Nat
  | 0, i => i
  | k + 1, i => if i < n ∧ tx i = 32 then s_skipf tx n k (i + 1) else i
def s_skip (tx : Nat → Nat) (n i : Nat) : Nat := s_skipf tx n (n - i) i
theorem s_skip_t {tx : Nat → Nat} {n i : Nat} (h : i < n) (ht : tx i = 32) : s_skip tx n i = s_skip tx n (i + 1) := by
  unfold s_skip
  obtain ⟨k, hk⟩ : ∃ k, n - i = k + 1 := ⟨n - i - 1, by omega⟩
  rw [hk, s_skipf, if_pos ⟨h, ht⟩, show n - (i + 1) = k by omega]
theorem s_skip_f {tx : Nat → Nat} {n i : Nat} (h : ¬ (i < n ∧ tx i = 32)) : s_skip tx n i = i := by
  unfold s_skip
  cases n - i with
  | zero => rfl
  | succ k => rw [s_skipf, if_neg h]
theorem s_skipf_le (tx : Nat → Nat) (n : Nat) : ∀ k i, i ≤ n → i ≤ s_skipf tx n k i ∧ s_skipf tx n k i ≤ n
  | 0, i, h => ⟨Nat.le_refl i, h⟩
  | k + 1, i, h => by
    rw [s_skipf]
    split
    · rename_i h1
      have := s_skipf_le tx n k (i + 1) (by omega)
      omega
    · exact ⟨Nat.le_refl i, h⟩
theorem s_skip_le {tx : Nat → Nat} {n i : Nat} (h : i ≤ n) : i ≤ s_skip tx n i ∧ s_skip tx n i ≤ n := s_skipf_le tx n _ i h
theorem s_skip_le1 {tx : Nat → Nat} {n i : Nat} (h : i ≤ 300) (hn : n ≤ 240) : s_skip tx n i ≤ 300 := by
  by_cases h1 : i ≤ n
  · have := (s_skip_le (tx := tx) h1).2; omega
  · rw [s_skip_f (by omega)]; omega
theorem s_skip_no (tx : Nat → Nat) (n : Nat) : ∀ k i, n - i ≤ k → ¬ (s_skip tx n i < n ∧ tx (s_skip tx n i) = 32)
  | 0, i, h => by rw [s_skip_f (by omega)]; omega
  | k + 1, i, h => by
    by_cases h1 : i < n ∧ tx i = 32
    · rw [s_skip_t h1.1 h1.2]; exact s_skip_no tx n k (i + 1) (by omega)
    · rw [s_skip_f h1]; exact h1
theorem s_skip_idem (tx : Nat → Nat) (n i : Nat) : s_skip tx n (s_skip tx n i) = s_skip tx n i := s_skip_f (s_skip_no tx n _ i (Nat.le_refl _))
def s_digf (tx : Nat → Nat) (n : Nat) : Nat → Nat → Nat
  | 0, _ => 0
  | k + 1, i => if i < n ∧ 48 ≤ tx i ∧ tx i ≤ 57 then s_digf tx n k (i + 1) + 1 else 0
def s_dig (tx : Nat → Nat) (n i : Nat) : Nat := s_digf tx n (n - i) i
theorem s_dig_t {tx : Nat → Nat} {n i : Nat} (h : i < n) (h1 : 48 ≤ tx i) (h2 : tx i ≤ 57) : s_dig tx n i = s_dig tx n (i + 1) + 1 := by
  unfold s_dig
  obtain ⟨k, hk⟩ : ∃ k, n - i = k + 1 := ⟨n - i - 1, by omega⟩
  rw [hk, s_digf, if_pos ⟨h, h1, h2⟩, show n - (i + 1) = k by omega]
theorem s_dig_f {tx : Nat → Nat} {n i : Nat} (h : ¬ (i < n ∧ 48 ≤ tx i ∧ tx i ≤ 57)) : s_dig tx n i = 0 := by
  unfold s_dig
  cases n - i with
  | zero => rfl
  | succ k => rw [s_digf, if_neg h]
theorem s_digf_le (tx : Nat → Nat) (n : Nat) : ∀ k i, i ≤ n → i + s_digf tx n k i ≤ n
  | 0, i, h => h
  | k + 1, i, h => by
    rw [s_digf]
    split
    · rename_i h1
      have := s_digf_le tx n k (i + 1) (by omega)
      omega
    · exact h
theorem s_dig_le {tx : Nat → Nat} {n i : Nat} (h : i ≤ n) : i + s_dig tx n i ≤ n := s_digf_le tx n _ i h
def s_val (tx : Nat → Nat) (f : Nat) : Nat → Nat
  | 0 => 0
  | j + 1 => s_val tx f j * 10 + tx (f + j) - 48
theorem s_val_lt {tx : Nat → Nat} {f : Nat} : ∀ j, (∀ i, i < j → tx (f + i) ≤ 57) → s_val tx f j < 10 ^ j
  | 0, _ => by show 0 < 1; omega
  | j + 1, h => by
    have h1 := s_val_lt j (fun i hi => h i (by omega))
    have h2 := h j (by omega)
    rw [s_val, Nat.pow_succ]
    omega
theorem s_dig_in {tx : Nat → Nat} {n : Nat} : ∀ (k i j : Nat), n - i ≤ k → j < s_dig tx n i → 48 ≤ tx (i + j) ∧ tx (i + j) ≤ 57
  | 0, i, j, h, hj => by rw [s_dig_f (by omega)] at hj; omega
  | k + 1, i, j, h, hj => by
    by_cases h1 : i < n ∧ 48 ≤ tx i ∧ tx i ≤ 57
    · rw [s_dig_t h1.1 h1.2.1 h1.2.2] at hj
      cases j with
      | zero => exact h1.2
      | succ j =>
        have := s_dig_in (tx := tx) (n := n) k (i + 1) j (by omega) (by omega)
        rw [show i + (j + 1) = i + 1 + j by omega]
        exact this
    · rw [s_dig_f h1] at hj; omega
theorem s_val3 {tx : Nat → Nat} {n f : Nat} : s_val tx f (min (s_dig tx n f) 3) < 1000 := by
  have h := s_val_lt (tx := tx) (f := f) (min (s_dig tx n f) 3) (fun i hi => (s_dig_in (tx := tx) (n := n) _ f i (Nat.le_refl _) (by omega)).2)
  have h2 : 10 ^ (min (s_dig tx n f) 3) ≤ 10 ^ 3 := Nat.pow_le_pow_right (by omega) (by omega)
  omega
def e_fail (kd pos : Nat) (E : xE) : xE := if E.1 = 0 then (kd, nI pos, E.2.2) else E
def e_failIf (c : Bool) (kd pos : Nat) (E : xE) : xE := if c then e_fail kd pos E else E
def e_skip (tx : Nat → Nat) (n : Nat) (E : xE) : xE := (E.1, E.2.1, s_skip tx n E.2.2)
def e_num (tx : Nat → Nat) (n lw hi : Nat) (E : xE) : Nat × xE := (s_val tx (s_skip tx n E.2.2) (min (s_dig tx n (s_skip tx n E.2.2)) 3),
  e_failIf (decide (3 < s_dig tx n (s_skip tx n E.2.2) ∨ s_val tx (s_skip tx n E.2.2) (min (s_dig tx n (s_skip tx n E.2.2)) 3) < lw ∨ hi ≤ s_val tx (s_skip tx n E.2.2) (min (s_dig tx n (s_skip tx n E.2.2)) 3))) 2 (s_skip tx n E.2.2) (e_failIf (decide (s_dig tx n (s_skip tx n E.2.2) = 0)) 1 (s_skip tx n E.2.2) (E.1, E.2.1, s_skip tx n E.2.2 + s_dig tx n (s_skip tx n E.2.2))))
def e_end (tx : Nat → Nat) (n : Nat) (E : xE) : xE := ((e_failIf (decide (¬ (s_skip tx n E.2.2 < n ∧ tx (s_skip tx n E.2.2) = 59))) 1 (s_skip tx n E.2.2) (E.1, E.2.1, s_skip tx n E.2.2)).1, (e_failIf (decide (¬ (s_skip tx n E.2.2 < n ∧ tx (s_skip tx n E.2.2) = 59))) 1 (s_skip tx n E.2.2) (E.1, E.2.1, s_skip tx n E.2.2)).2.1, s_skip tx n E.2.2 + 1)
theorem e_fail_at (kd pos : Nat) (E : xE) : (e_fail kd pos E).2.2 = E.2.2 := by unfold e_fail; split <;> rfl
theorem e_failIf_at (c : Bool) (kd pos : Nat) (E : xE) : (e_failIf c kd pos E).2.2 = E.2.2 := by unfold e_failIf; split; exact e_fail_at kd pos E; rfl
theorem e_num_at (tx : Nat → Nat) (n lw hi : Nat) (E : xE) : (e_num tx n lw hi E).2.2.2 = s_skip tx n E.2.2 + s_dig tx n (s_skip tx n E.2.2) := by unfold e_num; rw [e_failIf_at, e_failIf_at]
theorem e_num_le {tx : Nat → Nat} {n lw hi : Nat} {E : xE} (h : E.2.2 ≤ n) : (e_num tx n lw hi E).2.2.2 ≤ n := by
  rw [e_num_at]; exact s_dig_le (s_skip_le h).2
theorem e_num_lt (tx : Nat → Nat) (n lw hi : Nat) (E : xE) : (e_num tx n lw hi E).1 < 1000 := s_val3
theorem c_Text_fail {h : xH} {b n : Nat} {tx : Nat → Nat} {E : xE} (HT : x_Text h b n tx E) {kd pos : Nat} (hkd : kd ≤ 100) : x_Met m_X5_fail [.ref b, .int (nI kd), .int (nI pos)] h (x_vd (fun h' => x_Text h' b n tx (e_fail kd pos E) ∧ x_f1 h h' b)) := by
  obtain ⟨h2, hn, hk, hat, htx, t0, tf, t1, t1e⟩ := id HT
  have FR := x_f1.rf h b
  refine x_Met.of (lo := [some (.ref b), some (.int (nI kd)), some (.int (nI pos))]) (by decide) rfl rfl rfl ?_
  refine R_aload_n dX5_fail_0 rfl ?_
  refine R_get dX5_fail_1 f_X5_19 t0 rfl ?_
  refine R_ifneN 17 dX5_fail_4 rfl (by omega) (fun c_4 => ?_) (fun c_4 => ?_)
  · exact R_vret dX5_fail_17 rfl rfl rfl ⟨rfl, by rw [e_fail, if_neg c_4]; exact HT, FR⟩
  · refine R_aload_n dX5_fail_7 rfl ?_
    refine R_iload_n dX5_fail_8 rfl ?_
    refine R_put dX5_fail_9 f_X5_19 t0 (Nat.le_of_ble_eq_true rfl) (fun _ => rfl) (fun _ => rfl) ?_
    simp only [List.set_cons_succ, List.set_cons_zero]
    have HT := HT.obj (kd) (E.2.1) (E.2.2) (by omega) (by omega)
    have FR := x_f1.set (b := b) FR (.inr (5, [.ref (b + 1), .int (nI n), .int (nI (kd)), .int (E.2.1), .int (nI (E.2.2))]))
    obtain ⟨h2, hn, hk, hat, htx, t0, tf, t1, t1e⟩ := id HT
    dsimp only at hk hat t0
    refine R_aload_n dX5_fail_12 rfl ?_
    refine R_iload_n dX5_fail_13 rfl ?_
    refine R_put dX5_fail_14 f_X5_22 t0 (Nat.le_of_ble_eq_true rfl) (fun _ => rfl) (fun _ => rfl) ?_
    simp only [List.set_cons_succ, List.set_cons_zero]
    have HT := HT.obj (kd) (nI pos) (E.2.2) (by omega) (by omega)
    have FR := x_f1.set (b := b) FR (.inr (5, [.ref (b + 1), .int (nI n), .int (nI (kd)), .int (nI pos), .int (nI (E.2.2))]))
    obtain ⟨h2, hn, hk, hat, htx, t0, tf, t1, t1e⟩ := id HT
    dsimp only at hk hat t0
    exact R_vret dX5_fail_17 rfl rfl rfl ⟨rfl, by rw [e_fail, if_pos c_4]; exact HT, FR⟩
theorem c_Text_failIf {h : xH} {b n : Nat} {tx : Nat → Nat} {E : xE} (HT : x_Text h b n tx E) {c : Bool} {kd pos : Nat} (hkd : kd ≤ 100) : x_Met m_X5_failIf [.ref b, .int (x_b c), .int (nI kd), .int (nI pos)] h (x_vd (fun h' => x_Text h' b n tx (e_failIf c kd pos E) ∧ x_f1 h h' b)) := by
  obtain ⟨h2, hn, hk, hat, htx, t0, tf, t1, t1e⟩ := id HT
  refine x_Met.of (lo := [some (.ref b), some (.int (x_b c)), some (.int (nI kd)), some (.int (nI pos))]) (by decide) rfl rfl rfl ?_
  refine R_iload_n dX5_failIf_0 rfl ?_
  refine R_ifeqB 10 dX5_failIf_1 rfl (fun c_1 => ?_) (fun c_1 => ?_)
  · exact R_vret dX5_failIf_10 rfl rfl rfl ⟨rfl, by rw [e_failIf, c_1]; exact HT, x_f1.rf h b⟩
  · refine R_aload_n dX5_failIf_4 rfl ?_
    refine R_iload_n dX5_failIf_5 rfl ?_
    refine R_iload_n dX5_failIf_6 rfl ?_
    refine R_cV2v (N := m_X5_fail) dX5_failIf_7 l_X5_43 i_X5_fail t0 (c_Text_fail HT hkd) rfl rfl (fun h7 q_7 => ?_)
    obtain ⟨HT, FR⟩ := q_7
    exact R_vret dX5_failIf_10 rfl rfl rfl ⟨rfl, by rw [e_failIf, c_1]; exact HT, FR⟩
theorem c_Text_skip_loop {h : xH} {b n : Nat} {tx : Nat → Nat} {E : xE} : ∀ (k i : Nat), 301 ≤ i + k → ∀ g : xH, x_Text g b n tx (E.1, E.2.1, i) → x_f1 h g b → s_skip tx n i = s_skip tx n E.2.2 → x_Rn m_X5_skipBlanks 0 [some (.ref b)] [] g (0, 0) (x_vd (fun h' => x_Text h' b n tx (e_skip tx n E) ∧ x_f1 h h' b)) := by
  intro k
  induction k with
  | zero => intro i h1 g HT; have h9 : i ≤ 300 := HT.2.2.2.1; omega
  | succ k ih =>
    intro i h1 g HT FR hk2
    obtain ⟨h2, hn, hk, hat, htx, t0, tf, t1, t1e⟩ := id HT
    dsimp only at hk hat t0
    have lt1 : ∀ j, j < n → tx j < 2 ^ 31 := fun j hj => by have := htx j hj; omega
    refine R_aload_n dX5_skipBlanks_0 rfl ?_
    refine R_get dX5_skipBlanks_1 f_X5_25 t0 rfl ?_
    refine R_aload_n dX5_skipBlanks_4 rfl ?_
    refine R_get dX5_skipBlanks_5 f_X5_15 t0 rfl ?_
    refine R_geN 38 dX5_skipBlanks_8 rfl (by omega) (by omega) (fun c_8 => ?_) (fun c_8 => ?_)
    · exact R_vret dX5_skipBlanks_38 rfl rfl rfl ⟨rfl, by unfold e_skip; rw [← hk2, s_skip_f (by omega)]; exact HT, FR⟩
    · refine R_aload_n dX5_skipBlanks_11 rfl ?_
      refine R_get dX5_skipBlanks_12 f_X5_9 t0 rfl ?_
      refine R_aload_n dX5_skipBlanks_15 rfl ?_
      refine R_get dX5_skipBlanks_16 f_X5_25 t0 rfl ?_
      refine R_iald dX5_skipBlanks_19 t1 rfl (by omega) (by decide) ?_
      rw [t1e i (by omega)]
      refine R_bipush (nI 32) dX5_skipBlanks_20 rfl ?_
      refine R_neN 38 dX5_skipBlanks_22 rfl (lt1 _ (by omega)) (by omega) (fun c_22 => ?_) (fun c_22 => ?_)
      · exact R_vret dX5_skipBlanks_38 rfl rfl rfl ⟨rfl, by unfold e_skip; rw [← hk2, s_skip_f (fun z => c_22 z.2)]; exact HT, FR⟩
      · refine R_aload_n dX5_skipBlanks_25 rfl ?_
        refine R_dup dX5_skipBlanks_26 rfl ?_
        refine R_get dX5_skipBlanks_27 f_X5_25 t0 rfl ?_
        refine R_iconst (nI 1) dX5_skipBlanks_30 rfl ?_
        refine R_iaddN dX5_skipBlanks_31 ?_
        refine R_put dX5_skipBlanks_32 f_X5_25 t0 (Nat.le_of_ble_eq_true rfl) (fun _ => rfl) (fun _ => rfl) ?_
        simp only [List.set_cons_succ, List.set_cons_zero]
        have HG2 := HT.obj E.1 E.2.1 (i + 1) hk (by omega)
        refine R_goto 0 dX5_skipBlanks_35 rfl ?_
        rw [s_skip_t c_8 c_22] at hk2
        exact ih (i + 1) (by omega) _ HG2 (FR.set _) hk2
theorem c_Text_skip {h : xH} {b n : Nat} {tx : Nat → Nat} {E : xE} (HT : x_Text h b n tx E) : x_Met m_X5_skipBlanks [.ref b] h (x_vd (fun h' => x_Text h' b n tx (e_skip tx n E) ∧ x_f1 h h' b)) := by
  refine x_Met.of (lo := [some (.ref b)]) (by decide) rfl rfl rfl ?_
  exact c_Text_skip_loop 301 E.2.2 (by omega) h HT (x_f1.rf h b) rfl
