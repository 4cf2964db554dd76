/-! BOUNDS over a call -/
theorem z_tb_P {α : Type} {P : α → Prop} {n : Nat} {x : Int32} {f : Nat → α} {e : α} (hn : n < 2 ^ 31) (h1 : ∀ i, i < n → P (f i)) (h2 : P e) : P (z_tb n x f e) := by
  cases hx : x_has x n with
  | false => rw [z_tb_f hx]; exact h2
  | true =>
    obtain ⟨i, hi, rfl⟩ := x_has_t hn hx
    rw [z_tb_t hi hn]; exact h1 i hi
theorem z_rg_P {α : Type} {P : α → Prop} {a b : Nat} {x : Int32} {f : Nat → α} {e : α} (ha : a < 2 ^ 31) (hb : b < 2 ^ 31 - 1) (h1 : ∀ i, a ≤ i → i ≤ b → P (f i)) (h2 : P e) : P (z_rg a b x f e) := by
  by_cases c1 : x < nI a
  · rw [z_rg_lo c1]; exact h2
  · by_cases c2 : x ≤ nI b
    · obtain ⟨i, i1, i2, rfl⟩ := x_rng hb c1 c2 ha
      rw [z_rg_t i1 i2 (by omega)]; exact h1 i i1 i2
    · rw [z_rg_hi c2]; exact h2
def x_U (k : Nat) (e : Int32 × xZ) : Prop := x_ZB (k + 50) e.2
theorem x_U.no {k : Nat} {Z : xZ} {r : Int32} (h : x_ZB k Z) : x_U k (r, Z) := x_ZB.mono h (by omega)
theorem x_U.one {k : Nat} {Z : xZ} {r : Int32} (h : x_ZB (k + 1) Z) : x_U k (r, Z) := x_ZB.mono h (by omega)
theorem u_feed {k : Nat} {Z : xZ} (h : x_ZB k Z) (hk : k + 50 ≤ 50000) (l : Int32) : x_U k (z_feed Z l) := by
  obtain ⟨z1, z2, z3, z4, z5, z6, z7, z8⟩ := id h
  refine z_rg_P (P := x_U k) (by decide) (by decide) (fun i i1 i2 => ?_) (x_U.no h)
  by_cases c : (z_X Z).1 = 240
  · rw [if_pos c]; exact x_U.no h
  · rw [if_neg c]
    refine x_U.no ⟨z1, z2, z3, z4, z5, ⟨by show (z_X Z).1 + 1 ≤ 240; have := z6.1; omega, fun j hj => ?_⟩, z7, z8⟩
    have hj : j < (z_X Z).1 + 1 := hj
    show (if j = (z_X Z).1 then i else (z_X Z).2 j) < 256
    split
    · omega
    · exact z6.2 j (by omega)
theorem u_say {k : Nat} {Z : xZ} (h : x_ZB k Z) (hk : k + 50 ≤ 50000) (p : Int32) : x_U k (z_say Z p) := by
  have b4 := h.1.hb.1.2.2.2
  refine z_tb_P (P := x_U k) (by have : z_P Z ≤ 6 := b4; omega) (fun i hi => ?_) (x_U.no h)
  by_cases c : 90000 ≤ q_sy (z_Q Z)
  · rw [if_pos c]; exact x_U.no h
  · rw [if_neg c]; exact x_U.one (h.qt (h.2.1.speak (by have : z_P Z ≤ 6 := b4; omega) (by omega)))
theorem u_go {k : Nat} {Z : xZ} (h : x_ZB k Z) (hk : k + 50 ≤ 50000) (p d : Int32) : x_U k (z_go Z p d) := by
  obtain ⟨⟨b1, b2, b3, b4⟩, b5, b6, b7⟩ := h.1.hb
  refine z_tb_P (P := x_U k) (by have : z_P Z ≤ 6 := b4; omega) (fun i hi => ?_) (x_U.no h)
  refine z_tb_P (P := x_U k) (by have : z_D Z ≤ 8 := b3; omega) (fun j hj => ?_) (x_U.no h)
  by_cases c : s_behind (z_F Z) j (q_pl (z_Q Z) i) = -1
  · rw [if_pos c]; exact x_U.no h
  · rw [if_neg c]
    rcases s_behind_in (D := z_D Z) (R := z_R Z) (r := q_pl (z_Q Z) i) (fun d hd => ⟨(b5 d hd).1, (b5 d hd).2.1⟩) hj with e | ⟨t, ht, e⟩
    · exact absurd e c
    · rw [e, i_n_nI (by have : z_R Z ≤ 6 := b2; omega)]
      exact x_U.one (h.qt (h.2.1.go ht))
theorem z_ref_n {Z : xZ} {n : Int32} (h : z_ref Z n = 0) : ∃ i, 1 ≤ i ∧ i ≤ 20 ∧ n = nI i := by
  unfold z_ref at h
  by_cases c1 : n < nI 1
  · rw [z_rg_lo c1] at h; exact absurd h (by decide)
  · by_cases c2 : n ≤ nI 20
    · obtain ⟨i, i1, i2, e⟩ := x_rng (by decide) c1 c2 (by decide); exact ⟨i, i1, i2, e⟩
    · rw [z_rg_hi c2] at h; exact absurd h (by decide)
theorem u_hour {k : Nat} {Z : xZ} (h : x_ZB k Z) (hk : k + 50 ≤ 50000) (n : Int32) : x_U k (z_hour Z n) := by
  unfold z_hour
  by_cases c : z_ref Z n = 0
  · rw [if_pos c]
    obtain ⟨i, i1, i2, rfl⟩ := z_ref_n c
    rw [i_n_nI (by omega)]
    exact x_ZB.mono (x_ZB.iter (m := 1) (f := z_hour1) (fun k Z h hk => h.hour1 (by omega)) i k Z h (by omega)) (by omega)
  · rw [if_neg c]; exact x_U.no h
theorem u_drift {k : Nat} {Z : xZ} (h : x_ZB k Z) (hk : k + 50 ≤ 50000) (n : Int32) : x_U k (z_drift Z n) := by
  unfold z_drift
  by_cases c : z_ref Z n = 0
  · rw [if_pos c]
    obtain ⟨i, i1, i2, rfl⟩ := z_ref_n c
    rw [i_n_nI (by omega)]
    exact x_ZB.mono (x_ZB.iter (m := 2) (f := z_drift1) (fun k Z h hk => h.drift1 (by omega)) i k Z h (by omega)) (by omega)
  · rw [if_neg c]; exact x_U.no h
theorem u_out {k : Nat} {Z : xZ} (h : x_ZB k Z) (hk : k + 50 ≤ 50000) (r : Int32) : x_U k (z_out Z r) := by
  have b2 : z_R Z ≤ 6 := h.1.hb.1.2.1
  refine z_tb_P (P := x_U k) (by omega) (fun i hi => ?_) (x_U.no h)
  by_cases c : q_ou (z_Q Z) i = true
  · rw [if_pos c]; exact x_U.no h
  · rw [if_neg c]; exact x_U.one (h.qt (h.2.1.out hi))
theorem u_light {k : Nat} {Z : xZ} (h : x_ZB k Z) (hk : k + 50 ≤ 50000) (r : Int32) : x_U k (z_light Z r) := by
  have b2 : z_R Z ≤ 6 := h.1.hb.1.2.1
  refine z_tb_P (P := x_U k) (by omega) (fun i hi => ?_) (x_U.no h)
  by_cases c : q_ou (z_Q Z) i = false
  · rw [if_pos c]; exact x_U.no h
  · rw [if_neg c]; exact x_U.one (h.qt h.2.1.lit)
theorem u_candle {k : Nat} {Z : xZ} (h : x_ZB k Z) (hk : k + 50 ≤ 50000) (r c : Int32) : x_U k (z_candle Z r c) := by
  have b2 : z_R Z ≤ 6 := h.1.hb.1.2.1
  refine z_tb_P (P := x_U k) (by omega) (fun i hi => ?_) (x_U.no h)
  refine z_rg_P (P := x_U k) (by decide) (by decide) (fun j j1 j2 => ?_) (x_U.no h)
  exact x_U.one (h.qt (h.2.1.can j2))
theorem u_undo {k : Nat} {Z : xZ} (h : x_ZB k Z) (hk : k + 50 ≤ 50000) (n : Int32) : x_U k (z_undo Z n) := by
  obtain ⟨z1, z2, z3, z4, z5, z6, z7, z8⟩ := id h
  refine z_rg_P (P := x_U k) (by decide) (by decide) (fun i i1 i2 => ?_) (x_U.no h)
  by_cases c : (z_T Z).1 < i
  · rw [if_pos c]; exact x_U.no h
  · rw [if_neg c]
    refine x_U.no ⟨z1, z3.2 (i - 1) (by omega), ⟨by show (z_T Z).1 - i ≤ 30; have := z3.1; omega, fun j hj => ?_⟩, z4, z5, z6, z7, z8⟩
    have hj : j < (z_T Z).1 - i := hj
    exact z3.2 (j + i) (by omega)
theorem u_see {k : Nat} {Z : xZ} (h : x_ZB k Z) (hk : k + 50 ≤ 50000) (r : Int32) (v : Bool) : x_U k (z_see Z r v) := by
  obtain ⟨z1, z2, z3, z4, z5, z6, z7, z8⟩ := id h
  have b2 : z_R Z ≤ 6 := h.1.hb.1.2.1
  refine z_tb_P (P := x_U k) (by omega) (fun i hi => ?_) (x_U.no h)
  by_cases c : (z_S Z).1 = 6
  · rw [if_pos c]; exact x_U.no h
  · rw [if_neg c]
    refine x_U.no ⟨z1, z2, z3, z4, z5, z6, ⟨by show (z_S Z).1 + 1 ≤ 6; have := z7.1; omega, fun j hj => ?_⟩, z8⟩
    have hj : j < (z_S Z).1 + 1 := hj
    show (if j = (z_S Z).1 then i else (z_S Z).2.1 j) < z_R Z
    split
    · exact hi
    · exact z7.2 j (by omega)
theorem u_write {k : Nat} {Z : xZ} (h : x_ZB k Z) (hk : k + 50 ≤ 50000) (r p : Int32) : x_U k (z_write Z r p) := by
  obtain ⟨z1, z2, z3, z4, z5, z6, z7, z8⟩ := id h
  have b2 : z_R Z ≤ 6 := h.1.hb.1.2.1
  refine z_tb_P (P := x_U k) (by omega) (fun i hi => ?_) (x_U.no h)
  by_cases c0 : p = -1 ∨ x_has p (z_P Z) = true
  · rw [if_pos c0]
    by_cases c : (z_B Z).1 = 20
    · rw [if_pos c]; exact x_U.no h
    · rw [if_neg c]
      refine x_U.no ⟨z1, z2, z3, z4, z5, z6, z7, ⟨by show (z_B Z).1 + 1 ≤ 20; have := z8.1; omega, fun j hj => ?_⟩⟩
      have hj : j < (z_B Z).1 + 1 := hj
      show (if j = (z_B Z).1 then i else (z_B Z).2.1 j) < z_R Z
      split
      · exact hi
      · exact z8.2 j (by omega)
  · rw [if_neg c0]; exact x_U.no h
theorem u_tear {k : Nat} {Z : xZ} (h : x_ZB k Z) (hk : k + 50 ≤ 50000) : x_U k (z_tear Z) := by
  obtain ⟨z1, z2, z3, z4, z5, z6, z7, z8⟩ := id h
  exact x_U.no ⟨z1, z2, z3, z4, z5, z6, ⟨Nat.zero_le _, fun j hj => absurd hj (Nat.not_lt_zero j)⟩, ⟨Nat.zero_le _, fun j hj => absurd hj (Nat.not_lt_zero j)⟩⟩
theorem i_n_lt (v : Int32) : i_n v < 2 ^ 31 := by unfold i_n; have := Int32.toInt_lt v; omega
theorem u_seed {k : Nat} {Z : xZ} (h : x_ZB k Z) (hk : k + 50 ≤ 50000) (v : Int32) : x_U k (z_seed Z v) := by
  unfold z_seed
  by_cases c : v < 0
  · rw [if_pos c]; exact x_U.no h
  · rw [if_neg c]; exact x_U.no (h.s (i_n_lt v))
theorem u_keep {k : Nat} {Z : xZ} (h : x_ZB k Z) (hk : k + 50 ≤ 50000) (i : Int32) : x_U k (z_keep Z i) := by
  obtain ⟨z1, z2, z3, z4, z5, z6, z7, z8⟩ := id h
  refine z_tb_P (P := x_U k) (by decide) (fun j hj => ?_) (x_U.no h)
  refine x_U.no ⟨z1, z2, ⟨Nat.zero_le _, fun j hj => absurd hj (Nat.not_lt_zero j)⟩, fun x hx hi => ?_, z5, z6, z7, z8⟩
  have hi : (if x = j then true else (z_I Z).1 x) = true := hi
  show x_QK k (z_N Z) (z_R Z) (z_P Z) (if x = j then z_Q Z else (z_I Z).2.1 x) ∧ (if x = j then z_s Z else (z_I Z).2.2 x) < 2 ^ 31
  by_cases c : x = j
  · rw [if_pos c, if_pos c]; exact ⟨z2, z5⟩
  · rw [if_neg c] at hi ⊢; rw [if_neg c]; exact z4 x hx hi
theorem u_goBack {k : Nat} {Z : xZ} (h : x_ZB k Z) (hk : k + 50 ≤ 50000) (i : Int32) : x_U k (z_goBack Z i) := by
  obtain ⟨z1, z2, z3, z4, z5, z6, z7, z8⟩ := id h
  refine z_tb_P (P := x_U k) (by decide) (fun j hj => ?_) (x_U.no h)
  by_cases c : (z_I Z).1 j = true
  · rw [if_pos c]
    exact x_U.no ⟨z1, (z4 j hj c).1, ⟨Nat.zero_le _, fun j hj => absurd hj (Nat.not_lt_zero j)⟩, z4, (z4 j hj c).2, z6, z7, z8⟩
  · rw [if_neg c]; exact x_U.no h
theorem x_Model.kept {h h' : xH} {Z : xZ} (H : x_Model h Z) (hq : ∀ q, 372 ≤ q → h'[q]? = h[q]?) : x_Model h' Z := by
  obtain ⟨M, sd, kp, t, H1, H2⟩ := H
  exact ⟨M, sd, kp, t, H1.kept hq, H2⟩
theorem x_Class.kept {h h' : xH} {Z : xZ} (H : x_Class h Z) (hq : ∀ q, q < 372 → h'[q]? = h[q]?) : x_Class h' Z := by
  obtain ⟨hb, db, E, Wd, nx, fw, lt, A, B, c1, cx, c0, cT, cH, cD, cN, cR, cI, cP, cS, cB⟩ := H
  exact ⟨hb, db, E, Wd, nx, fw, lt, A, B, (hq 1 (by decide)).trans c1, cx, (hq 2 (by decide)).trans c0, cT.kept (hq 3 (by decide)) (hq 4 (by decide)), cH.kept (fun q q1 q2 => hq q (by omega)), x_House.kept cD (fun q q1 q2 => hq q (by omega)), cN.kept (fun q q1 q2 => hq q (by omega)), cR.kept (fun q q1 q2 => hq q (by omega)), cI.kept (fun q q1 q2 => hq q (by omega)), cP.kept (fun q q1 q2 => hq q (by omega)), cS.kept (fun q q1 q2 => hq q (by omega)), cB.kept (fun q q1 q2 => hq q (by omega))⟩
