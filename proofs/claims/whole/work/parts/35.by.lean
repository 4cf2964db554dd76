/-! MEASURES: walls and ways, by rooms between -/
abbrev xT : Type := Nat → Nat → Nat
def x_Tab (h : xH) (o : Nat) (T : xT) : Prop := 2 ≤ o ∧ h[o]? = some (x_qa 4 6 o) ∧ ∀ a, a < 6 → h[o + 1 + a]? = some (x_na 6 (T a))
def s_short (T : xT) (a b l : Nat) : xT := fun x y => if l < T a b ∧ ((x = a ∧ y = b) ∨ (x = b ∧ y = a)) then l else T x y
theorem x_Tab.set {h : xH} {o a : Nat} {T : xT} (H : x_Tab h o T) (ha : a < 6) (g : Nat → Nat) : x_Tab (h.set (o + 1 + a) (x_na 6 g)) o (fun x => if x = a then g else T x) := by
  obtain ⟨h2, t1, t2⟩ := H
  have hl := (List.getElem?_eq_some_iff.mp (t2 a ha)).1
  refine ⟨h2, (List.getElem?_set_ne (by omega)).trans t1, fun x hx => ?_⟩
  by_cases e : x = a
  · subst e; rw [List.getElem?_set_self hl]; show _ = some (x_na 6 (if x = x then g else T x)); rw [if_pos rfl]
  · rw [List.getElem?_set_ne (by omega)]; show _ = some (x_na 6 (if x = a then g else T x)); rw [if_neg e]; exact t2 x hx
theorem x_Tab.kept {h h' : xH} {o : Nat} {T : xT} (H : x_Tab h o T) (hq : ∀ q, o ≤ q → q < o + 7 → h'[q]? = h[q]?) : x_Tab h' o T :=
  ⟨H.1, (hq o (by omega) (by omega)).trans H.2.1, fun a ha => (hq _ (by omega) (by omega)).trans (H.2.2 a ha)⟩
theorem s_short_f {T : xT} {a b l : Nat} (h : ¬ l < T a b) : s_short T a b l = T := by funext x y; unfold s_short; rw [if_neg (fun z => h z.1)]
theorem s_short_t {T : xT} {a b l : Nat} (h : l < T a b) : (fun x => if x = b then s_snoc a ((fun x => if x = a then s_snoc b (T a) l else T x) b) l else (fun x => if x = a then s_snoc b (T a) l else T x) x) = s_short T a b l := by
  funext x y
  unfold s_short s_snoc
  by_cases e1 : x = a
  · by_cases e2 : x = b
    · subst e1; subst e2
      by_cases e3 : y = x <;> simp [h, e3]
    · subst e1
      by_cases e3 : y = b <;> simp [h, e2, e3]
  · by_cases e2 : x = b
    · subst e2
      by_cases e3 : y = a <;> simp [h, e1, e3]
    · simp [e1, e2]
theorem c_House_shorten {h : xH} {b o x y l : Nat} {T : xT} (HT : x_Tab h o T) (hx : x < 6) (hy : y < 6) (hT : T x y < 1000) (hl : l < 1000) : x_Met m_X1_shorten [.ref b, .ref o, .int (nI x), .int (nI y), .int (nI l)] h (x_vd (fun h' => x_Tab h' o (s_short T x y l) ∧ x_fr h h' (o + 1) 6)) := by
  obtain ⟨ho2, t1, t2⟩ := id HT
  have FR := x_fr.rf h (o + 1) 6
  refine x_Met.of (lo := [some (.ref b), some (.ref o), some (.int (nI x)), some (.int (nI y)), some (.int (nI l))]) (by decide) rfl rfl rfl ?_
  refine R_iload dX1_shorten_0 rfl ?_
  refine R_aload_n dX1_shorten_2 rfl ?_
  refine R_iload_n dX1_shorten_3 rfl ?_
  refine R_aald dX1_shorten_4 t1 (by omega) (fun _ => rfl) rfl rfl (by omega) (by decide) (if_pos (by omega)) ?_
  refine R_iload_n dX1_shorten_5 rfl ?_
  refine R_iald dX1_shorten_6 (t2 _ (by omega)) rfl (by omega) (by decide) ?_
  refine R_geN 24 dX1_shorten_7 rfl (by omega) (by omega) (fun c_7 => ?_) (fun c_7 => ?_)
  · rw [← s_short_f (T := T) (a := x) (b := y) (l := l) (by omega)] at HT
    exact R_vret dX1_shorten_24 rfl rfl rfl ⟨rfl, HT, FR⟩
  · refine R_aload_n dX1_shorten_10 rfl ?_
    refine R_iload_n dX1_shorten_11 rfl ?_
    refine R_aald dX1_shorten_12 t1 (by omega) (fun _ => rfl) rfl rfl (by omega) (by decide) (if_pos (by omega)) ?_
    refine R_iload_n dX1_shorten_13 rfl ?_
    refine R_iload dX1_shorten_14 rfl ?_
    refine R_iast dX1_shorten_16 (t2 _ (by omega)) (by omega) rfl (by omega) (by decide) ?_
    rw [x_updN]
    have HT := HT.set (a := x) hx (s_snoc y (T x) l)
    have FR := FR.set (a := o + 1 + x) (x_na 6 (s_snoc y (T x) l)) (by omega) (by omega)
    obtain ⟨ho2, t1, t2⟩ := id HT
    refine R_aload_n dX1_shorten_17 rfl ?_
    refine R_iload_n dX1_shorten_18 rfl ?_
    refine R_aald dX1_shorten_19 t1 (by omega) (fun _ => rfl) rfl rfl (by omega) (by decide) (if_pos (by omega)) ?_
    refine R_iload_n dX1_shorten_20 rfl ?_
    refine R_iload dX1_shorten_21 rfl ?_
    refine R_iast dX1_shorten_23 (t2 _ (by omega)) (by omega) rfl (by omega) (by decide) ?_
    rw [x_updN]
    have HT := HT.set (a := y) hy (s_snoc x ((fun z => if z = x then s_snoc y (T x) l else T z) y) l)
    have FR := FR.set (a := o + 1 + y) (x_na 6 (s_snoc x ((fun z => if z = x then s_snoc y (T x) l else T z) y) l)) (by omega) (by omega)
    rw [s_short_t c_7] at HT
    exact R_vret dX1_shorten_24 rfl rfl rfl ⟨rfl, HT, FR⟩
def s_fw (t : xT) (k : Nat) : xT := fun x y => min (t x y) (t x k + t k y)
def s_fl (t : xT) : Nat → xT
  | 0 => t
  | k + 1 => s_fw (s_fl t k) k
/-- a table of distances among R rooms -/
def x_dist (R : Nat) (t : xT) : Prop := (∀ x y, x < R → y < R → t x y = t y x ∧ t x y ≤ 99) ∧ ∀ x, x < R → t x x = 0
theorem x_dist.fw {R : Nat} {t : xT} (h : x_dist R t) {k : Nat} (hk : k < R) : x_dist R (s_fw t k) := by
  refine ⟨fun x y hx hy => ?_, fun x hx => ?_⟩
  · have h1 := h.1 x y hx hy
    have h2 := h.1 x k hx hk
    have h3 := h.1 k y hk hy
    show min (t x y) (t x k + t k y) = min (t y x) (t y k + t k x) ∧ min (t x y) (t x k + t k y) ≤ 99
    rw [← h1.1, ← h2.1, ← h3.1]
    omega
  · have := h.2 x hx
    show min (t x x) (t x k + t k x) = 0
    omega
theorem x_dist.fl {R : Nat} {t : xT} (h : x_dist R t) : ∀ k, k ≤ R → x_dist R (s_fl t k)
  | 0, _ => h
  | k + 1, hk => (x_dist.fl h k (by omega)).fw (by omega)
theorem s_fw_row {R : Nat} {t : xT} (h : x_dist R t) {k x : Nat} (hk : k < R) : s_fw t k x k = t x k := by
  have := h.2 k hk
  show min (t x k) (t x k + t k k) = t x k
  omega
theorem s_fw_col {R : Nat} {t : xT} (h : x_dist R t) {k x : Nat} (hk : k < R) : s_fw t k k x = t k x := by
  have := h.2 k hk
  show min (t k x) (t k k + t k x) = t k x
  omega
/-- in pass k, the rooms up to (i, j) done -/
def x_pass (R : Nat) (t T : xT) (k i j : Nat) : Prop := ∀ x y, x < R → y < R → T x y = if (x < i ∨ (x = i ∧ y < j)) ∨ (y < i ∨ (y = i ∧ x < j)) then s_fw t k x y else t x y
theorem x_pass.row {R : Nat} {t T : xT} {k i j : Nat} (hp : x_pass R t T k i j) (h : x_dist R t) (hk : k < R) {x : Nat} (hx : x < R) : T x k = t x k ∧ T k x = t k x := by
  refine ⟨?_, ?_⟩
  · rw [hp x k hx hk, s_fw_row h hk]; split <;> rfl
  · rw [hp k x hk hx, s_fw_col h hk]; split <;> rfl
theorem x_pass.le {R : Nat} {t T : xT} {k i j : Nat} (hp : x_pass R t T k i j) (h : x_dist R t) {x y : Nat} (hx : x < R) (hy : y < R) : T x y ≤ 99 := by
  rw [hp x y hx hy]
  have := (h.1 x y hx hy).2
  split
  · show min (t x y) _ ≤ 99; omega
  · exact this
theorem x_pass.step {R : Nat} {t T : xT} {k i j : Nat} (hp : x_pass R t T k i j) (h : x_dist R t) (hk : k < R) (hi : i < R) (hj : j < R) : x_pass R t (s_short T i j (T i k + T k j)) k i (j + 1) := by
  intro x y hx hy
  rw [(hp.row h hk hi).1, (hp.row h hk hj).2]
  have hxy := hp x y hx hy
  have hij := hp i j hi hj
  have d1 := h.1 x y hx hy
  have d2 := h.1 i j hi hj
  have d3 := h.1 i k hi hk
  have d4 := h.1 k j hk hj
  have e1 : s_fw t k i j = min (t i j) (t i k + t k j) := rfl
  have e2 : s_fw t k j i = min (t i j) (t i k + t k j) := by show min (t j i) (t j k + t k i) = _; rw [← d2.1, ← d3.1, ← d4.1]; omega
  unfold s_short
  by_cases c1 : x = i ∧ y = j
  · obtain ⟨rfl, rfl⟩ := c1
    rw [if_pos (show (x < x ∨ (x = x ∧ y < y + 1)) ∨ (y < x ∨ (y = x ∧ x < y + 1)) from Or.inl (Or.inr ⟨rfl, by omega⟩)), e1]
    by_cases c2 : t x k + t k y < T x y
    · rw [if_pos ⟨c2, Or.inl ⟨rfl, rfl⟩⟩]
      rw [hij] at c2
      split at c2
      · rw [e1] at c2; omega
      · omega
    · rw [if_neg (fun z => c2 z.1)]
      rw [hij] at c2 ⊢
      split
      · exact e1
      · rw [if_neg (by assumption)] at c2; omega
  · by_cases c3 : x = j ∧ y = i
    · obtain ⟨rfl, rfl⟩ := c3
      rw [if_pos (show (x < y ∨ (x = y ∧ y < x + 1)) ∨ (y < y ∨ (y = y ∧ x < x + 1)) from Or.inr (Or.inr ⟨rfl, by omega⟩)), e2]
      have hc : ((x < y ∨ (x = y ∧ y < x)) ∨ (y < y ∨ (y = y ∧ x < x))) = ((y < y ∨ (y = y ∧ x < x)) ∨ (x < y ∨ (x = y ∧ y < x))) := by apply propext; omega
      by_cases c2 : t y k + t k x < T y x
      · rw [if_pos ⟨c2, Or.inr ⟨rfl, rfl⟩⟩]
        rw [hij] at c2
        split at c2
        · rw [e1] at c2; omega
        · omega
      · rw [if_neg (fun z => c2 z.1), hxy]
        rw [hij] at c2
        split
        · exact e2
        · rw [if_neg (by omega)] at c2; omega
    · rw [if_neg (fun z => z.2.elim c1 c3), hxy]
      by_cases c4 : (x < i ∨ (x = i ∧ y < j)) ∨ (y < i ∨ (y = i ∧ x < j))
      · rw [if_pos c4, if_pos (by omega)]
      · rw [if_neg c4, if_neg (by omega)]
theorem c_House_by_j {h : xH} {b o N R D P : Nat} {t : xT} (hbo : b < o) (hR : R ≤ 6) (ht : x_dist R t) {k i : Nat} (hk : k < R) (hi : i < R) (dk : x_dist R (s_fl t k)) (kk : ∀ (g : xH) (T : xT), x_pass R (s_fl t k) T k i R → x_Tab g o T → x_fr h g (o + 1) 6 → g[b]? = some (.inr (1, [.int (nI N), .int (nI R), .int (nI D), .int (nI P), .ref (b + 1), .ref (b + 2), .ref (b + 3), .ref (b + 4), .ref (b + 5), .ref (b + 6), .ref (b + 7), .ref (b + 8), .ref (b + 15)])) → x_Rn m_X1_shortenByRoomsBetween 58 [some (.ref b), some (.ref o), some (.int (nI k)), some (.int (nI i)), some (.int (nI R))] [] g (0, 0) (x_vd (fun h' => (∃ T, x_Tab h' o T ∧ ∀ x y, x < R → y < R → T x y = s_fl t R x y) ∧ x_fr h h' (o + 1) 6))) : ∀ (n j : Nat), j ≤ R → R + 1 ≤ j + n → ∀ (T : xT) {g : xH}, x_pass R (s_fl t k) T k i j → x_Tab g o T → x_fr h g (o + 1) 6 → g[b]? = some (.inr (1, [.int (nI N), .int (nI R), .int (nI D), .int (nI P), .ref (b + 1), .ref (b + 2), .ref (b + 3), .ref (b + 4), .ref (b + 5), .ref (b + 6), .ref (b + 7), .ref (b + 8), .ref (b + 15)])) → x_Rn m_X1_shortenByRoomsBetween 23 [some (.ref b), some (.ref o), some (.int (nI k)), some (.int (nI i)), some (.int (nI j))] [] g (0, 0) (x_vd (fun h' => (∃ T, x_Tab h' o T ∧ ∀ x y, x < R → y < R → T x y = s_fl t R x y) ∧ x_fr h h' (o + 1) 6)) := by
  intro n
  induction n with
  | zero => intro j h1 h3; omega
  | succ n ih =>
    intro j h1 h3 T g hp HT FR g0
    obtain ⟨ho2, t1, t2⟩ := id HT
    have v1 := hp.le dk (x := i) (y := k) hi hk
    refine R_iload dX1_shortenByRoomsBetween_23 rfl ?_
    refine R_aload_n dX1_shortenByRoomsBetween_25 rfl ?_
    refine R_get dX1_shortenByRoomsBetween_26 f_X1_15 g0 rfl ?_
    refine R_geN 58 dX1_shortenByRoomsBetween_29 rfl (by omega) (by omega) (fun c_29 => ?_) (fun c_29 => ?_)
    · have ej : j = R := by omega
      subst ej
      exact kk _ T hp HT FR g0
    · refine R_aload_n dX1_shortenByRoomsBetween_32 rfl ?_
      refine R_aload_n dX1_shortenByRoomsBetween_33 rfl ?_
      refine R_iload_n dX1_shortenByRoomsBetween_34 rfl ?_
      refine R_iload dX1_shortenByRoomsBetween_35 rfl ?_
      refine R_aload_n dX1_shortenByRoomsBetween_37 rfl ?_
      refine R_iload_n dX1_shortenByRoomsBetween_38 rfl ?_
      refine R_aald dX1_shortenByRoomsBetween_39 t1 (by omega) (fun _ => rfl) rfl rfl (by omega) (by decide) (if_pos (by omega)) ?_
      refine R_iload_n dX1_shortenByRoomsBetween_40 rfl ?_
      refine R_iald dX1_shortenByRoomsBetween_41 (t2 _ (by omega)) rfl (by omega) (by decide) ?_
      refine R_aload_n dX1_shortenByRoomsBetween_42 rfl ?_
      refine R_iload_n dX1_shortenByRoomsBetween_43 rfl ?_
      refine R_aald dX1_shortenByRoomsBetween_44 t1 (by omega) (fun _ => rfl) rfl rfl (by omega) (by decide) (if_pos (by omega)) ?_
      refine R_iload dX1_shortenByRoomsBetween_45 rfl ?_
      refine R_iald dX1_shortenByRoomsBetween_47 (t2 _ (by omega)) rfl (by omega) (by decide) ?_
      refine R_iaddN dX1_shortenByRoomsBetween_48 ?_
      refine R_cV4v (N := m_X1_shorten) dX1_shortenByRoomsBetween_49 l_X1_58 i_X1_shorten g0 (c_House_shorten HT (by omega) (by omega) (by have := hp.le dk (x := i) (y := j) (by omega) (by omega); omega) (by have := hp.le dk (x := i) (y := k) (by omega) (by omega); have := hp.le dk (x := k) (y := j) (by omega) (by omega); omega)) rfl rfl (fun h49 q_49 => ?_)
      obtain ⟨HT, FR1⟩ := q_49
      have hp := hp.step dk (by omega) (by omega) (by omega)
      have g0 := (FR1 b (by omega)).trans g0
      have FR := FR.trans FR1
      refine R_iincN dX1_shortenByRoomsBetween_52 rfl (Nat.le_of_ble_eq_true rfl) rfl ?_
      refine R_goto 23 dX1_shortenByRoomsBetween_55 rfl ?_
      exact ih (j + 1) (by omega) (by omega) _ hp HT FR g0
theorem c_House_by_i {h : xH} {b o N R D P : Nat} {t : xT} (hbo : b < o) (hR : R ≤ 6) (ht : x_dist R t) {k : Nat} (hk : k < R) (dk : x_dist R (s_fl t k)) (kk : ∀ (g : xH) (T : xT) vj, x_pass R (s_fl t k) T k R 0 → x_Tab g o T → x_fr h g (o + 1) 6 → g[b]? = some (.inr (1, [.int (nI N), .int (nI R), .int (nI D), .int (nI P), .ref (b + 1), .ref (b + 2), .ref (b + 3), .ref (b + 4), .ref (b + 5), .ref (b + 6), .ref (b + 7), .ref (b + 8), .ref (b + 15)])) → x_Rn m_X1_shortenByRoomsBetween 64 [some (.ref b), some (.ref o), some (.int (nI k)), some (.int (nI R)), vj] [] g (0, 0) (x_vd (fun h' => (∃ T, x_Tab h' o T ∧ ∀ x y, x < R → y < R → T x y = s_fl t R x y) ∧ x_fr h h' (o + 1) 6))) : ∀ (n i : Nat), i ≤ R → R + 1 ≤ i + n → ∀ (T : xT) (vj : Option Value) {g : xH}, x_pass R (s_fl t k) T k i 0 → x_Tab g o T → x_fr h g (o + 1) 6 → g[b]? = some (.inr (1, [.int (nI N), .int (nI R), .int (nI D), .int (nI P), .ref (b + 1), .ref (b + 2), .ref (b + 3), .ref (b + 4), .ref (b + 5), .ref (b + 6), .ref (b + 7), .ref (b + 8), .ref (b + 15)])) → x_Rn m_X1_shortenByRoomsBetween 12 [some (.ref b), some (.ref o), some (.int (nI k)), some (.int (nI i)), vj] [] g (0, 0) (x_vd (fun h' => (∃ T, x_Tab h' o T ∧ ∀ x y, x < R → y < R → T x y = s_fl t R x y) ∧ x_fr h h' (o + 1) 6)) := by
  intro n
  induction n with
  | zero => intro i h1 h3; omega
  | succ n ih =>
    intro i h1 h3 T vj g hp HT FR g0
    refine R_iload_n dX1_shortenByRoomsBetween_12 rfl ?_
    refine R_aload_n dX1_shortenByRoomsBetween_13 rfl ?_
    refine R_get dX1_shortenByRoomsBetween_14 f_X1_15 g0 rfl ?_
    refine R_geN 64 dX1_shortenByRoomsBetween_17 rfl (by omega) (by omega) (fun c_17 => ?_) (fun c_17 => ?_)
    · have ei : i = R := by omega
      subst ei
      exact kk _ T _ hp HT FR g0
    · refine R_iconst (nI 0) dX1_shortenByRoomsBetween_20 rfl ?_
      refine R_istore dX1_shortenByRoomsBetween_21 (Nat.le_of_ble_eq_true rfl) rfl ?_
      refine c_House_by_j hbo hR ht hk (by omega) dk (fun g T hp HT FR g0 => ?_) (R + 1) 0 (by omega) (by omega) T hp HT FR g0
      refine R_iincN dX1_shortenByRoomsBetween_58 rfl (Nat.le_of_ble_eq_true rfl) rfl ?_
      refine R_goto 12 dX1_shortenByRoomsBetween_61 rfl ?_
      have hp2 : x_pass R (s_fl t k) T k (i + 1) 0 := fun x y hx hy => by
        rw [hp x y hx hy]
        by_cases c : (x < i ∨ (x = i ∧ y < R)) ∨ (y < i ∨ (y = i ∧ x < R))
        · rw [if_pos c, if_pos (by omega)]
        · rw [if_neg c, if_neg (by omega)]
      exact ih (i + 1) (by omega) (by omega) T (some (.int (nI R))) hp2 HT FR g0
theorem c_House_by_k {h : xH} {b o N R D P : Nat} {t : xT} (hbo : b < o) (hR : R ≤ 6) (ht : x_dist R t) : ∀ (n k : Nat), k ≤ R → R + 1 ≤ k + n → ∀ (T : xT) (vi vj : Option Value) {g : xH}, (∀ x y, x < R → y < R → T x y = s_fl t k x y) → x_Tab g o T → x_fr h g (o + 1) 6 → g[b]? = some (.inr (1, [.int (nI N), .int (nI R), .int (nI D), .int (nI P), .ref (b + 1), .ref (b + 2), .ref (b + 3), .ref (b + 4), .ref (b + 5), .ref (b + 6), .ref (b + 7), .ref (b + 8), .ref (b + 15)])) → x_Rn m_X1_shortenByRoomsBetween 2 [some (.ref b), some (.ref o), some (.int (nI k)), vi, vj] [] g (0, 0) (x_vd (fun h' => (∃ T, x_Tab h' o T ∧ ∀ x y, x < R → y < R → T x y = s_fl t R x y) ∧ x_fr h h' (o + 1) 6)) := by
  intro n
  induction n with
  | zero => intro k h1 h3; omega
  | succ n ih =>
    intro k h1 h3 T vi vj g hT HT FR g0
    refine R_iload_n dX1_shortenByRoomsBetween_2 rfl ?_
    refine R_aload_n dX1_shortenByRoomsBetween_3 rfl ?_
    refine R_get dX1_shortenByRoomsBetween_4 f_X1_15 g0 rfl ?_
    refine R_geN 70 dX1_shortenByRoomsBetween_7 rfl (by omega) (by omega) (fun c_7 => ?_) (fun c_7 => ?_)
    · have ek : k = R := by omega
      subst ek
      exact R_vret dX1_shortenByRoomsBetween_70 rfl rfl rfl ⟨rfl, ⟨T, HT, hT⟩, FR⟩
    · refine R_iconst (nI 0) dX1_shortenByRoomsBetween_10 rfl ?_
      refine R_istore_n dX1_shortenByRoomsBetween_11 (Nat.le_of_ble_eq_true rfl) rfl ?_
      refine c_House_by_i hbo hR ht (by omega) (ht.fl k (by omega)) (fun g T vj hp HT FR g0 => ?_) (R + 1) 0 (by omega) (by omega) T _ (fun x y hx hy => by rw [if_neg (by omega)]; exact hT x y hx hy) HT FR g0
      refine R_iincN dX1_shortenByRoomsBetween_64 rfl (Nat.le_of_ble_eq_true rfl) rfl ?_
      refine R_goto 2 dX1_shortenByRoomsBetween_67 rfl ?_
      exact ih (k + 1) (by omega) (by omega) T (some (.int (nI R))) vj (fun x y hx hy => by rw [hp x y hx hy, if_pos (by omega)]; rfl) HT FR g0
theorem c_House_by {h : xH} {b o N R D P : Nat} {t : xT} (hbo : b < o) (hR : R ≤ 6) (ht : x_dist R t) {T : xT} (hT : ∀ x y, x < R → y < R → T x y = t x y) (HT : x_Tab h o T) (g0 : h[b]? = some (.inr (1, [.int (nI N), .int (nI R), .int (nI D), .int (nI P), .ref (b + 1), .ref (b + 2), .ref (b + 3), .ref (b + 4), .ref (b + 5), .ref (b + 6), .ref (b + 7), .ref (b + 8), .ref (b + 15)]))) : x_Met m_X1_shortenByRoomsBetween [.ref b, .ref o] h (x_vd (fun h' => (∃ T, x_Tab h' o T ∧ ∀ x y, x < R → y < R → T x y = s_fl t R x y) ∧ x_fr h h' (o + 1) 6)) := by
  refine x_Met.of (lo := [some (.ref b), some (.ref o), none, none, none]) (by decide) rfl rfl rfl ?_
  refine R_iconst (nI 0) dX1_shortenByRoomsBetween_0 rfl ?_
  refine R_istore_n dX1_shortenByRoomsBetween_1 (Nat.le_of_ble_eq_true rfl) rfl ?_
  exact c_House_by_k hbo hR ht (R + 1) 0 (by omega) (by omega) T _ _ hT HT (x_fr.rf h (o + 1) 6) g0
