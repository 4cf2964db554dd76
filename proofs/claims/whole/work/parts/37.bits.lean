/-! LONGS AS SETS OF SETS -/
def s_lb (x : Int64) (m : Nat) : Bool := x.toBitVec.getLsbD m
theorem s_lb_or (x y : Int64) (m : Nat) : s_lb (x ||| y) m = (s_lb x m || s_lb y m) := by unfold s_lb; rw [Int64.toBitVec_or, BitVec.getLsbD_or]
theorem s_lb_and (x y : Int64) (m : Nat) : s_lb (x &&& y) m = (s_lb x m && s_lb y m) := by unfold s_lb; rw [Int64.toBitVec_and, BitVec.getLsbD_and]
theorem x_shn : ∀ r, r < 6 → (((nI 1 <<< (nI r &&& 31)).toInt64 &&& 63).toBitVec.smod 64).toNat = 2 ^ r := by decide +kernel
theorem s_lb_shl (x : Int64) {r m : Nat} (hr : r < 6) (hm : m < 64) : s_lb (x <<< ((nI 1 <<< (nI r &&& 31)).toInt64 &&& 63)) m = (decide (2 ^ r ≤ m) && s_lb x (m - 2 ^ r)) := by
  unfold s_lb
  rw [Int64.toBitVec_shiftLeft, BitVec.shiftLeft_eq', x_shn r hr, BitVec.getLsbD_shiftLeft]
  by_cases c : m < 2 ^ r
  · have c2 : ¬ 2 ^ r ≤ m := by omega
    simp [c, c2]
  · have c2 : 2 ^ r ≤ m := by omega
    simp [hm, c, c2]
theorem x_lackb : ∀ r, r < 6 → ∀ m, m < 64 → s_lb (x_lack r) m = !m.testBit r := by decide +kernel
theorem x_m1 : ∀ r, r < 6 → ∀ m, m < 64 → (m.testBit r = true → 2 ^ r ≤ m ∧ (m - 2 ^ r).testBit r = false) ∧ (m.testBit r = false → 2 ^ r ≤ m → (m - 2 ^ r).testBit r = true) := by decide +kernel
def s_clr1 (m r : Nat) : Nat := if m.testBit r then m - 2 ^ r else m
/-- a set without those of f, of the first r -/
def s_clr (f : Nat → Bool) : Nat → Nat → Nat
  | 0, m => m
  | r + 1, m => s_clr f r (if f r then s_clr1 m r else m)
theorem s_clr1_le (m r : Nat) : s_clr1 m r ≤ m := by
  unfold s_clr1
  split
  · exact Nat.sub_le _ _
  · exact Nat.le_refl _
theorem s_clr_le (f : Nat → Bool) : ∀ r m, s_clr f r m ≤ m
  | 0, m => Nat.le_refl m
  | r + 1, m => by
    rw [s_clr]
    refine Nat.le_trans (s_clr_le f r _) ?_
    split
    · exact s_clr1_le m r
    · exact Nat.le_refl m
def s_win1 (x : Int64) (r : Nat) : Int64 := (x &&& x_lack r) ||| ((x &&& x_lack r) <<< ((nI 1 <<< (nI r &&& 31)).toInt64 &&& 63))
theorem s_win1_b (x : Int64) {r m : Nat} (hr : r < 6) (hm : m < 64) : s_lb (s_win1 x r) m = s_lb x (s_clr1 m r) := by
  unfold s_win1 s_clr1
  rw [s_lb_or, s_lb_shl _ hr hm, s_lb_and, s_lb_and, x_lackb r hr m hm, x_lackb r hr (m - 2 ^ r) (Nat.lt_of_le_of_lt (Nat.sub_le _ _) hm)]
  have h := x_m1 r hr m hm
  cases e : m.testBit r with
  | true =>
    have h1 := h.1 e
    simp [h1.1, h1.2]
  | false =>
    by_cases c : 2 ^ r ≤ m
    · have h2 := h.2 e c
      simp [h2]
    · simp [c]
def s_winL (x : Int64) (f : Nat → Bool) : Nat → Int64
  | 0 => x
  | r + 1 => if f r then s_win1 (s_winL x f r) r else s_winL x f r
theorem s_winL_b (x : Int64) (f : Nat → Bool) : ∀ r, r ≤ 6 → ∀ m, m < 64 → s_lb (s_winL x f r) m = s_lb x (s_clr f r m)
  | 0, _, m, _ => rfl
  | r + 1, hr, m, hm => by
    rw [s_winL, s_clr]
    have h1 := s_clr1_le m r
    by_cases c : f r = true
    · rw [if_pos c, if_pos c, s_win1_b _ (by omega) hm, s_winL_b x f r (by omega) _ (by omega)]
    · rw [if_neg c, if_neg c, s_winL_b x f r (by omega) _ hm]
theorem x_shm : ∀ m, m < 64 → ((nI m).toInt64.toUInt64 &&& Int64.toUInt64 63).toBitVec % 64 = BitVec.ofNat 64 m := by decide +kernel
theorem lg_cmp0 {x y : Int64} : lg_cmp x y = 0 ↔ x = y := by
  unfold lg_cmp
  by_cases c1 : x > y
  · rw [if_pos c1]
    refine ⟨fun z => absurd z (by decide), fun z => ?_⟩
    subst z
    exact absurd c1 (Int64.lt_irrefl)
  · rw [if_neg c1]
    by_cases c2 : x = y
    · rw [if_pos c2]; exact ⟨fun _ => c2, fun _ => rfl⟩
    · rw [if_neg c2]; exact ⟨fun z => absurd z (by decide), fun z => absurd z c2⟩
theorem s_lb_ask (x : Int64) {m : Nat} (hm : m < 64) : (x.toUInt64 >>> ((nI m).toInt64.toUInt64 &&& Int64.toUInt64 63)).toInt64 &&& lN 1 = lN 0 ↔ s_lb x m = false := by
  rw [← Int64.toBitVec_inj, Int64.toBitVec_and]
  have e : (x.toUInt64 >>> ((nI m).toInt64.toUInt64 &&& Int64.toUInt64 63)).toInt64.toBitVec = x.toBitVec >>> m := by
    show (x.toUInt64 >>> ((nI m).toInt64.toUInt64 &&& Int64.toUInt64 63)).toBitVec = _
    rw [UInt64.toBitVec_shiftRight, x_shm m hm, BitVec.ushiftRight_eq', BitVec.toNat_ofNat, Nat.mod_eq_of_lt (by omega)]
    rfl
  rw [e]
  have e1 : (lN 1).toBitVec = 1#64 := rfl
  have e0 : (lN 0).toBitVec = 0#64 := rfl
  rw [e1, e0]
  unfold s_lb
  constructor
  · intro z
    have := congrArg (fun v => BitVec.getLsbD v 0) z
    simpa using this
  · intro z
    apply BitVec.eq_of_getLsbD_eq
    intro i hi
    rw [BitVec.getLsbD_and, BitVec.getLsbD_ushiftRight]
    by_cases c : i = 0
    · subst c; simp [z]
    · simp [c]
theorem s_lb_1 : ∀ m, m < 64 → s_lb (lN 1) m = decide (m = 0) := by decide +kernel
/-! THE PLANNER -/
abbrev x_la (n : Nat) (f : Nat → Int64) : xC := .inl (1, n, .inr (.inl f))
abbrev xA : Type := Nat → Nat → Int64
def x_Plan (h : xH) (b : Nat) (fw lt : Int32) (A B : xA) : Prop := 2 ≤ b ∧ h[b]? = some (.inr (3, [.int fw, .int lt, .ref (b + 1), .ref (b + 8)])) ∧ h[b + 1]? = some (x_qa 5 6 (b + 1)) ∧ (∀ r, r < 6 → h[b + 1 + 1 + r]? = some (x_la 7 (A r))) ∧ h[b + 8]? = some (x_qa 5 6 (b + 8)) ∧ ∀ r, r < 6 → h[b + 8 + 1 + r]? = some (x_la 7 (B r))
def s_aset (A : xA) (r : Nat) (g : Nat → Int64) : xA := fun x => if x = r then g else A x
theorem x_Plan.obj {h : xH} {b : Nat} {fw lt : Int32} {A B : xA} (H : x_Plan h b fw lt A B) (fw' lt' : Int32) : x_Plan (h.set b (.inr (3, [.int fw', .int lt', .ref (b + 1), .ref (b + 8)]))) b fw' lt' A B := by
  obtain ⟨h2, g0, g1, g2, g3, g4⟩ := H
  exact ⟨h2, List.getElem?_set_self (List.getElem?_eq_some_iff.mp g0).1, (List.getElem?_set_ne (by omega)).trans g1, fun r hr => (List.getElem?_set_ne (by omega)).trans (g2 r hr), (List.getElem?_set_ne (by omega)).trans g3, fun r hr => (List.getElem?_set_ne (by omega)).trans (g4 r hr)⟩
theorem x_Plan.kept {h h' : xH} {b : Nat} {fw lt : Int32} {A B : xA} (H : x_Plan h b fw lt A B) (hq : ∀ q, b ≤ q → q < b + 15 → h'[q]? = h[q]?) : x_Plan h' b fw lt A B := by
  obtain ⟨h2, g0, g1, g2, g3, g4⟩ := H
  exact ⟨h2, (hq _ (by omega) (by omega)).trans g0, (hq _ (by omega) (by omega)).trans g1, fun r hr => (hq _ (by omega) (by omega)).trans (g2 r hr), (hq _ (by omega) (by omega)).trans g3, fun r hr => (hq _ (by omega) (by omega)).trans (g4 r hr)⟩
theorem x_Plan.a {h : xH} {b r : Nat} {fw lt : Int32} {A B : xA} (H : x_Plan h b fw lt A B) (hr : r < 6) (g : Nat → Int64) : x_Plan (h.set (b + 1 + 1 + r) (x_la 7 g)) b fw lt (s_aset A r g) B := by
  obtain ⟨h2, g0, g1, g2, g3, g4⟩ := H
  have hl := (List.getElem?_eq_some_iff.mp (g2 r hr)).1
  refine ⟨h2, (List.getElem?_set_ne (by omega)).trans g0, (List.getElem?_set_ne (by omega)).trans g1, fun x hx => ?_, (List.getElem?_set_ne (by omega)).trans g3, fun x hx => (List.getElem?_set_ne (by omega)).trans (g4 x hx)⟩
  unfold s_aset
  by_cases e : x = r
  · subst e; rw [List.getElem?_set_self hl, if_pos rfl]
  · rw [List.getElem?_set_ne (by omega), if_neg e]; exact g2 x hx
theorem x_Plan.b {h : xH} {b r : Nat} {fw lt : Int32} {A B : xA} (H : x_Plan h b fw lt A B) (hr : r < 6) (g : Nat → Int64) : x_Plan (h.set (b + 8 + 1 + r) (x_la 7 g)) b fw lt A (s_aset B r g) := by
  obtain ⟨h2, g0, g1, g2, g3, g4⟩ := H
  have hl := (List.getElem?_eq_some_iff.mp (g4 r hr)).1
  refine ⟨h2, (List.getElem?_set_ne (by omega)).trans g0, (List.getElem?_set_ne (by omega)).trans g1, fun x hx => (List.getElem?_set_ne (by omega)).trans (g2 x hx), (List.getElem?_set_ne (by omega)).trans g3, fun x hx => ?_⟩
  unfold s_aset
  by_cases e : x = r
  · subst e; rw [List.getElem?_set_self hl, if_pos rfl]
  · rw [List.getElem?_set_ne (by omega), if_neg e]; exact g4 x hx
theorem c_Planner_winnable_loop {h : xH} {b R : Nat} {f : Nat → Bool} {x : Int64} (hR : R ≤ 6) (hk1 : h[1]? = some (x_la 6 x_lack)) : ∀ (n r : Nat), r ≤ 6 → 7 ≤ r + n → x_Rn m_X3_winnable 6 [some (.ref b), some (.long x), none, some (.int (s_set R f)), some (.long (s_winL x (fun i => decide (i < R) && f i) r)), none, some (.int (nI r))] [] h (0, 0) (x_prl (s_winL x (fun i => decide (i < R) && f i) 6) h) := by
  intro n
  induction n with
  | zero => intro r h1 h3; omega
  | succ n ih =>
    intro r h1 h3
    refine R_iload dX3_winnable_6 rfl ?_
    refine R_bipush (nI 6) dX3_winnable_8 rfl ?_
    refine R_geN 51 dX3_winnable_10 rfl (by omega) (by omega) (fun c_10 => ?_) (fun c_10 => ?_)
    · have e : r = 6 := by omega
      subst e
      refine R_lload dX3_winnable_51 rfl ?_
      exact R_lret dX3_winnable_53 rfl rfl rfl ⟨rfl, rfl⟩
    · refine R_iload_n dX3_winnable_13 rfl ?_
      refine R_iload dX3_winnable_14 rfl ?_
      refine R_ishr dX3_winnable_16 ?_
      refine R_iconst (nI 1) dX3_winnable_17 rfl ?_
      refine R_iand dX3_winnable_18 ?_
      rw [s_bit hR f (by omega)]
      refine R_ifeqB 45 dX3_winnable_19 rfl (fun c_19 => ?_) (fun c_19 => ?_)
      · refine R_iincN dX3_winnable_45 rfl (Nat.le_of_ble_eq_true rfl) rfl ?_
        refine R_goto 6 dX3_winnable_48 rfl ?_
        have e : s_winL x (fun i => decide (i < R) && f i) (r + 1) = s_winL x (fun i => decide (i < R) && f i) r := by rw [s_winL, c_19]; rfl
        rw [← e]
        exact ih (r + 1) (by omega) (by omega)
      · refine R_lload dX3_winnable_22 rfl ?_
        refine R_lack dX3_winnable_24 rfl ?_
        refine R_iload dX3_winnable_27 rfl ?_
        refine R_lald dX3_winnable_29 hk1 rfl (by omega) (by decide) ?_
        refine R_land dX3_winnable_30 ?_
        refine R_lstore dX3_winnable_31 (Nat.le_of_ble_eq_true rfl) rfl ?_
        refine R_lload dX3_winnable_33 rfl ?_
        refine R_lload dX3_winnable_35 rfl ?_
        refine R_iconst (nI 1) dX3_winnable_37 rfl ?_
        refine R_iload dX3_winnable_38 rfl ?_
        refine R_ishl dX3_winnable_40 ?_
        refine R_lshl dX3_winnable_41 ?_
        refine R_lor dX3_winnable_42 ?_
        refine R_lstore dX3_winnable_43 (Nat.le_of_ble_eq_true rfl) rfl ?_
        refine R_iincN dX3_winnable_45 rfl (Nat.le_of_ble_eq_true rfl) rfl ?_
        refine R_goto 6 dX3_winnable_48 rfl ?_
        have e : s_winL x (fun i => decide (i < R) && f i) (r + 1) = s_win1 (s_winL x (fun i => decide (i < R) && f i) r) r := by rw [s_winL, c_19]; rfl
        have q := ih (r + 1) (by omega) (by omega)
        rw [e] at q
        exact q
theorem c_Planner_winnable {h : xH} {b R : Nat} {f : Nat → Bool} {x : Int64} (hR : R ≤ 6) (hk1 : h[1]? = some (x_la 6 x_lack)) : x_Met m_X3_winnable [.ref b, .long x, .int (s_set R f)] h (x_prl (s_winL x (fun i => decide (i < R) && f i) 6) h) := by
  refine x_Met.of (lo := [some (.ref b), some (.long x), none, some (.int (s_set R f)), none, none, none]) (by decide) rfl rfl rfl ?_
  refine R_lload_n dX3_winnable_0 rfl ?_
  refine R_lstore dX3_winnable_1 (Nat.le_of_ble_eq_true rfl) rfl ?_
  refine R_iconst (nI 0) dX3_winnable_3 rfl ?_
  refine R_istore dX3_winnable_4 (Nat.le_of_ble_eq_true rfl) rfl ?_
  exact c_Planner_winnable_loop hR hk1 7 0 (by omega) (by omega)
