/-! WHAT A CALL DOES, in numbers -/
def z_tb {α : Type} (n : Nat) (x : Int32) (f : Nat → α) (e : α) : α := if x_has x n then f (i_n x) else e
theorem z_tb_t {α : Type} {n k : Nat} {f : Nat → α} {e : α} (hk : k < n) (hn : n < 2 ^ 31) : z_tb n (nI k) f e = f k := by rw [z_tb, if_pos (x_has_nI hk hn), i_n_nI (by omega)]
theorem z_tb_f {α : Type} {n : Nat} {x : Int32} {f : Nat → α} {e : α} (h : x_has x n = false) : z_tb n x f e = e := by rw [z_tb, if_neg (by rw [h]; decide)]
def z_rg {α : Type} (a b : Nat) (x : Int32) (f : Nat → α) (e : α) : α := if ¬ x < nI a ∧ x ≤ nI b then f (i_n x) else e
theorem z_rg_t {α : Type} {a b i : Nat} {f : Nat → α} {e : α} (h1 : a ≤ i) (h2 : i ≤ b) (hb : b < 2 ^ 31) : z_rg a b (nI i) f e = f i := by rw [z_rg, if_pos ⟨fun z => by have := (nI_ltI (by omega) (by omega)).mp z; omega, (nI_leI (by omega) (by omega)).mpr h2⟩, i_n_nI (by omega)]
theorem z_rg_lo {α : Type} {a b : Nat} {x : Int32} {f : Nat → α} {e : α} (h : x < nI a) : z_rg a b x f e = e := by rw [z_rg, if_neg (fun z => z.1 h)]
theorem z_rg_hi {α : Type} {a b : Nat} {x : Int32} {f : Nat → α} {e : α} (h : ¬ x ≤ nI b) : z_rg a b x f e = e := by rw [z_rg, if_neg (fun z => h z.2)]
theorem x_rng {x : Int32} {a b : Nat} (hb : b < 2 ^ 31 - 1) (h1 : ¬ x < nI a) (h2 : x ≤ nI b) (ha : a < 2 ^ 31) : ∃ i, a ≤ i ∧ i ≤ b ∧ x = nI i := by
  rcases pk_ix x (n := b + 1) (by omega) with q | q | ⟨j, hj, rfl⟩
  · exact absurd (by
      rw [Int32.lt_iff_toInt_lt] at q ⊢
      rw [nI_toInt ha]
      have e0 : (0 : Int32).toInt = 0 := by decide
      rw [e0] at q
      omega) h1
  · rw [Int32.le_iff_toInt_le, nI_toInt (by omega)] at q
    rw [Int32.le_iff_toInt_le, nI_toInt (by omega)] at h2
    omega
  · refine ⟨j, Nat.le_of_not_lt (fun z => h1 ((nI_ltI (by omega) (by omega)).mpr z)), by omega, rfl⟩
/-- what a call answers, and what stands behind it -/
def x_KC (h : xH) (e : Int32 × xZ) : Option Value → xH → Prop := x_ir (fun r h' => r = e.1 ∧ x_Class h' e.2 ∧ x_fC h h')
theorem x_KC.ok {h h' : xH} {e : Int32 × xZ} {r : Int32} {Z : xZ} (HC : x_Class h' Z) (f : x_fC h h') (he : e = (r, Z)) : x_KC h e (some (.int r)) h' := by subst he; exact ⟨r, rfl, rfl, HC, f⟩
theorem x_CL.cl {h : xH} {Z : xZ} {hb db : Nat} {E : xE} {Wd : xW} {nx : Nat} {fw lt : Int32} {A B : xA} (C : x_CL h Z hb db E Wd nx fw lt A B) : x_Class h Z := ⟨hb, db, E, Wd, nx, fw, lt, A, B, C⟩
abbrev z_qt2 (Z : xZ) (Q : xQ) : xZ := z_setQ (z_setT Z (t_rem (z_Q Z) (z_T Z))) Q
def z_feed (Z : xZ) (l : Int32) : Int32 × xZ := z_rg 0 255 l (fun i => if (z_X Z).1 = 240 then (-1000000004, Z) else (nI ((z_X Z).1 + 1), z_setX Z ((z_X Z).1 + 1, s_snoc (z_X Z).1 (z_X Z).2 i))) (-1000000002, Z)
def z_say (Z : xZ) (p : Int32) : Int32 × xZ := z_tb (z_P Z) p (fun i => if 90000 ≤ q_sy (z_Q Z) then (-1000000004, Z) else (s_set (z_R Z) (s_counts (z_N Z) (z_F Z) (z_Q Z) i), z_qt2 Z (s_speak (z_N Z) (z_R Z) (z_F Z) (z_Q Z) i))) (-1000000001, Z)
def q_go (Q : xQ) (p t : Nat) : xQ := (Q.1, Q.2.1, Q.2.2.1, Q.2.2.2.1, (fun x => if x = p then t else Q.2.2.2.2.1 x), Q.2.2.2.2.2.1, Q.2.2.2.2.2.2.1, Q.2.2.2.2.2.2.2)
def q_out (Q : xQ) (r : Nat) : xQ := (Q.1, Q.2.1, Q.2.2.1, Q.2.2.2.1, Q.2.2.2.2.1, (fun i => Q.2.2.2.2.2.1 i || decide (i = r)), Q.2.2.2.2.2.2.1, Q.2.2.2.2.2.2.2)
def q_lit (Q : xQ) (r : Nat) : xQ := (Q.1, Q.2.1, Q.2.2.1, Q.2.2.2.1, Q.2.2.2.2.1, (fun i => Q.2.2.2.2.2.1 i && decide (¬ i = r)), Q.2.2.2.2.2.2.1, Q.2.2.2.2.2.2.2)
def q_can (Q : xQ) (r c : Nat) : xQ := (Q.1, Q.2.1, Q.2.2.1, (fun x => if x = r then c else Q.2.2.2.1 x), Q.2.2.2.2.1, Q.2.2.2.2.2.1, Q.2.2.2.2.2.2.1, Q.2.2.2.2.2.2.2)
def z_go (Z : xZ) (p d : Int32) : Int32 × xZ := z_tb (z_P Z) p (fun i => z_tb (z_D Z) d (fun j => if s_behind (z_F Z) j (q_pl (z_Q Z) i) = -1 then (-1000000003, Z) else (s_behind (z_F Z) j (q_pl (z_Q Z) i), z_qt2 Z (q_go (z_Q Z) i (i_n (s_behind (z_F Z) j (q_pl (z_Q Z) i)))))) (-1000000001, Z)) (-1000000001, Z)
def z_ref (Z : xZ) (n : Int32) : Int32 := z_rg 1 20 n (fun _ => if z_N Z = 0 then -1000000003 else if 9000 < q_nt (z_Q Z) then -1000000004 else 0) (-1000000002)
def z_iter (f : xZ → xZ) : Nat → xZ → xZ
  | 0, Z => Z
  | n + 1, Z => z_iter f n (f Z)
def z_hour1 (Z : xZ) : xZ := z_qt2 Z (s_pass (z_N Z) (z_R Z) (z_Q Z))
def z_hour (Z : xZ) (n : Int32) : Int32 × xZ := if z_ref Z n = 0 then (nI (q_hr (z_Q (z_iter z_hour1 (i_n n) Z))), z_iter z_hour1 (i_n n) Z) else (z_ref Z n, Z)
def z_out (Z : xZ) (r : Int32) : Int32 × xZ := z_tb (z_R Z) r (fun i => if q_ou (z_Q Z) i = true then (-1000000003, Z) else (x_b (s_lit (z_Q Z) (q_hr (z_Q Z)) i), z_qt2 Z (q_out (z_Q Z) i))) (-1000000001, Z)
def z_light (Z : xZ) (r : Int32) : Int32 × xZ := z_tb (z_R Z) r (fun i => if q_ou (z_Q Z) i = false then (-1000000003, Z) else (x_b (s_lit (q_lit (z_Q Z) i) (q_hr (z_Q Z)) i), z_qt2 Z (q_lit (z_Q Z) i))) (-1000000001, Z)
def z_candle (Z : xZ) (r c : Int32) : Int32 × xZ := z_tb (z_R Z) r (fun i => z_rg 0 20 c (fun j => (nI (q_bu (z_Q Z) i), z_qt2 Z (q_can (z_Q Z) i j))) (-1000000002, Z)) (-1000000001, Z)
def s_lcg (s : Nat) : Nat := (s * 1103515245 + 12345) % 2147483648
def s_dw (s n : Nat) : Nat := s / 65536 % n
/-- one acts, by draws of g -/
def z_actG (g : Nat → Nat) (w : Nat → Nat → Nat) (Z : xZ) : xZ := if z_P Z = 0 then Z else
  if w (g (z_s Z)) 4 ≤ 1 then z_setQ (z_sets Z (g (g (z_s Z)))) (s_speak (z_N Z) (z_R Z) (z_F Z) (z_Q Z) (w (g (g (z_s Z))) (z_P Z)))
  else if w (g (z_s Z)) 4 = 2 then
    if z_D Z = 0 then z_sets Z (g (g (z_s Z)))
    else if s_behind (z_F Z) (w (g (g (g (z_s Z)))) (z_D Z)) (q_pl (z_Q Z) (w (g (g (z_s Z))) (z_P Z))) = -1 then z_sets Z (g (g (g (z_s Z))))
    else z_setQ (z_sets Z (g (g (g (z_s Z))))) (q_go (z_Q Z) (w (g (g (z_s Z))) (z_P Z)) (i_n (s_behind (z_F Z) (w (g (g (g (z_s Z)))) (z_D Z)) (q_pl (z_Q Z) (w (g (g (z_s Z))) (z_P Z))))))
  else z_setQ (z_sets Z (g (g (z_s Z)))) (q_out (z_Q Z) (q_pl (z_Q Z) (w (g (g (z_s Z))) (z_P Z))))
def z_act (Z : xZ) : xZ := z_actG s_lcg s_dw Z
def z_pass (Z : xZ) : xZ := z_setQ Z (s_pass (z_N Z) (z_R Z) (z_Q Z))
def z_drift1 (Z : xZ) : xZ := z_pass (z_act (z_setT Z (t_rem (z_Q Z) (z_T Z))))
def z_drift (Z : xZ) (n : Int32) : Int32 × xZ := if z_ref Z n = 0 then (nI (q_hr (z_Q (z_iter z_drift1 (i_n n) Z))), z_iter z_drift1 (i_n n) Z) else (z_ref Z n, Z)
def z_undo (Z : xZ) (n : Int32) : Int32 × xZ := z_rg 1 30 n (fun i => if (z_T Z).1 < i then (-1000000003, Z) else (nI (q_hr ((z_T Z).2 (i - 1))), z_setQ (z_setT Z ((z_T Z).1 - i, fun j => (z_T Z).2 (j + i))) ((z_T Z).2 (i - 1)))) (-1000000002, Z)
def z_see (Z : xZ) (r : Int32) (v : Bool) : Int32 × xZ := z_tb (z_R Z) r (fun i => if (z_S Z).1 = 6 then (-1000000004, Z) else (nI ((z_S Z).1 + 1), z_setS Z ((z_S Z).1 + 1, s_snoc (z_S Z).1 (z_S Z).2.1 i, s_snoc (z_S Z).1 (z_S Z).2.2 v))) (-1000000001, Z)
def z_write (Z : xZ) (r p : Int32) : Int32 × xZ := z_tb (z_R Z) r (fun i => if p = -1 ∨ x_has p (z_P Z) = true then if (z_B Z).1 = 20 then (-1000000004, Z) else (nI ((z_B Z).1 + 1), z_setB Z ((z_B Z).1 + 1, s_snoc (z_B Z).1 (z_B Z).2.1 i, s_snoc (z_B Z).1 (z_B Z).2.2 p)) else (-1000000001, Z)) (-1000000001, Z)
def z_tear (Z : xZ) : Int32 × xZ := (nI ((z_S Z).1 + (z_B Z).1), z_setB (z_setS Z (0, (z_S Z).2)) (0, (z_B Z).2))
def z_seed (Z : xZ) (v : Int32) : Int32 × xZ := if v < 0 then (-1000000002, Z) else (nI (z_s Z), z_sets Z (i_n v))
def z_none (T : xTr) : xTr := (0, T.2)
def z_keep (Z : xZ) (i : Int32) : Int32 × xZ := z_tb 2 i (fun j => (nI 1, z_setT (z_setI Z (fun x => if x = j then true else (z_I Z).1 x, fun x => if x = j then z_Q Z else (z_I Z).2.1 x, fun x => if x = j then z_s Z else (z_I Z).2.2 x)) (z_none (z_T Z)))) (-1000000001, Z)
def z_goBack (Z : xZ) (i : Int32) : Int32 × xZ := z_tb 2 i (fun j => if (z_I Z).1 j = true then (nI 1, z_setT (z_sets (z_setQ Z ((z_I Z).2.1 j)) ((z_I Z).2.2 j)) (z_none (z_T Z))) else (-1000000003, Z)) (-1000000001, Z)
theorem s_lcg_lt (s : Nat) : s_lcg s < 2 ^ 31 := Nat.mod_lt _ (by decide)
theorem s_dw_lt (s n : Nat) (hn : 0 < n) : s_dw s n < n := Nat.mod_lt _ hn
theorem s_behind_in {F : xF} {D R d r : Nat} (hF : ∀ d, d < D → F 1 d < R ∧ F 2 d < R) (hd : d < D) : s_behind F d r = -1 ∨ ∃ t, t < R ∧ s_behind F d r = nI t := by
  unfold s_behind
  have := hF d hd
  split
  · exact Or.inr ⟨_, this.2, rfl⟩
  · split
    · exact Or.inr ⟨_, this.1, rfl⟩
    · exact Or.inl rfl
theorem x_Int32_neg1 : ¬ (-1 : Int32) = nI 0 := by decide
/-! bounds stand -/
theorem x_QK.trem {k N R P : Nat} {Q : xQ} {T : xTr} (h : x_QK k N R P Q) (hT : T.1 ≤ 30 ∧ ∀ j, j < T.1 → x_QK k N R P (T.2 j)) : (t_rem Q T).1 ≤ 30 ∧ ∀ j, j < (t_rem Q T).1 → x_QK k N R P ((t_rem Q T).2 j) := by
  refine ⟨Nat.min_le_right _ _, fun j hj => ?_⟩
  have hj : j < min (T.1 + 1) 30 := hj
  show x_QK k N R P (if j = 0 then Q else T.2 (j - 1))
  split
  · exact h
  · exact hT.2 (j - 1) (by omega)
theorem x_ZB.qt {k : Nat} {Z : xZ} {Q : xQ} (h : x_ZB k Z) (hQ : x_QK (k + 1) (z_N Z) (z_R Z) (z_P Z) Q) : x_ZB (k + 1) (z_qt2 Z Q) := by
  have h1 := h.mono (Nat.le_succ k)
  exact ⟨h1.1, hQ, h1.2.1.trem h1.2.2.1, h1.2.2.2⟩
theorem x_ZB.q {k : Nat} {Z : xZ} {Q : xQ} (h : x_ZB k Z) (hQ : x_QK (k + 1) (z_N Z) (z_R Z) (z_P Z) Q) : x_ZB (k + 1) (z_setQ Z Q) := by
  have h1 := h.mono (Nat.le_succ k)
  exact ⟨h1.1, hQ, h1.2.2⟩
theorem x_ZB.t {k : Nat} {Z : xZ} (h : x_ZB k Z) : x_ZB k (z_setT Z (t_rem (z_Q Z) (z_T Z))) := ⟨h.1, h.2.1, h.2.1.trem h.2.2.1, h.2.2.2⟩
theorem x_ZB.s {k : Nat} {Z : xZ} {s : Nat} (h : x_ZB k Z) (hs : s < 2 ^ 31) : x_ZB k (z_sets Z s) := ⟨h.1, h.2.1, h.2.2.1, h.2.2.2.1, hs, h.2.2.2.2.2⟩
theorem x_QK.go {k N R P : Nat} {Q : xQ} (h : x_QK k N R P Q) {p t : Nat} (ht : t < R) : x_QK (k + 1) N R P (q_go Q p t) := by
  obtain ⟨⟨u1, u2, u3, u4, u5, u6, u7, u8, u9⟩, v1, v2⟩ := h
  refine ⟨⟨u1, u2, u3, u4, u5, fun x hx => ?_, u7, u8, u9⟩, Nat.le_succ_of_le v1, Nat.le_succ_of_le v2⟩
  show (if x = p then t else q_pl Q x) < R
  split
  · exact ht
  · exact u6 x hx
theorem x_QK.out {k N R P : Nat} {Q : xQ} (h : x_QK k N R P Q) {r : Nat} (hr : r < R) : x_QK (k + 1) N R P (q_out Q r) := by
  obtain ⟨⟨u1, u2, u3, u4, u5, u6, u7, u8, u9⟩, v1, v2⟩ := h
  refine ⟨⟨u1, u2, u3, u4, u5, u6, fun x hx => ?_, u8, u9⟩, Nat.le_succ_of_le v1, Nat.le_succ_of_le v2⟩
  show (q_ou Q x || decide (x = r)) = false
  rw [u7 x hx, decide_eq_false (by omega)]; rfl
theorem x_QK.lit {k N R P : Nat} {Q : xQ} (h : x_QK k N R P Q) {r : Nat} : x_QK (k + 1) N R P (q_lit Q r) := by
  obtain ⟨⟨u1, u2, u3, u4, u5, u6, u7, u8, u9⟩, v1, v2⟩ := h
  refine ⟨⟨u1, u2, u3, u4, u5, u6, fun x hx => ?_, u8, u9⟩, Nat.le_succ_of_le v1, Nat.le_succ_of_le v2⟩
  show (q_ou Q x && decide (¬ x = r)) = false
  rw [u7 x hx]; rfl
theorem x_QK.can {k N R P : Nat} {Q : xQ} (h : x_QK k N R P Q) {r c : Nat} (hc : c ≤ 20) : x_QK (k + 1) N R P (q_can Q r c) := by
  obtain ⟨⟨u1, u2, u3, u4, u5, u6, u7, u8, u9⟩, v1, v2⟩ := h
  refine ⟨⟨u1, u2, u3, u4, fun x hx => ?_, u6, u7, u8, u9⟩, Nat.le_succ_of_le v1, Nat.le_succ_of_le v2⟩
  show (if x = r then c else q_bu Q x) ≤ 20
  split
  · exact hc
  · exact u5 x hx
theorem x_QK.speak {k N R P : Nat} {Q : xQ} (h : x_QK k N R P Q) {F : xF} {p : Nat} (hp : p < 6) (hk : k ≤ 50000) : x_QK (k + 1) N R P (s_speak N R F Q p) := by
  obtain ⟨⟨u1, u2, u3, u4, u5, u6, u7, u8, u9⟩, v1, v2⟩ := h
  refine ⟨⟨u1, u2, u3, ?_, u5, u6, u7, u8, fun i r hi hr => ?_⟩, Nat.le_succ_of_le v1, ?_⟩
  · show Q.2.2.1 + 1 ≤ 200000; have v2 : Q.2.2.1 ≤ k := v2; omega
  · show s_said N R F Q p i r = -1 ∨ ∃ q, q < 6 ∧ s_said N R F Q p i r = nI q
    unfold s_said
    split
    · refine Or.inr ⟨_, ?_, rfl⟩
      unfold s_name
      split <;> omega
    · exact u9 i r hi hr
  · show Q.2.2.1 + 1 ≤ k + 1; have v2 : Q.2.2.1 ≤ k := v2; omega
theorem x_QK.pass {k N R P : Nat} {Q : xQ} (h : x_QK k N R P Q) (hN : N ≤ 20) (hk : k ≤ 50000) : x_QK (k + 1) N R P (s_pass N R Q) := by
  obtain ⟨⟨u1, u2, u3, u4, u5, u6, u7, u8, u9⟩, v1, v2⟩ := h
  unfold s_pass
  split
  · rename_i c
    have c : Q.1 + 1 < N := c
    exact ⟨⟨by show Q.1 + 1 ≤ 20; omega, Or.inl c, u3, u4, u5, u6, u7, u8, u9⟩, Nat.le_succ_of_le v1, Nat.le_succ_of_le v2⟩
  · have v1 : Q.2.1 ≤ k := v1
    refine ⟨⟨Nat.zero_le _, ?_, by show Q.2.1 + 1 ≤ 100000; omega, u4, u5, u6, fun _ _ => rfl, fun r hr => ?_, fun _ _ _ _ => Or.inl rfl⟩, by show Q.2.1 + 1 ≤ k + 1; omega, Nat.le_succ_of_le v2⟩
    · show 0 < N ∨ N = 0; omega
    · show (if r < R then s_will Q r 0 else _) = -1 ∨ ∃ p, p < 6 ∧ (if r < R then s_will Q r 0 else _) = nI p
      rw [if_pos hr]
      unfold s_will
      split
      · exact u8 r hr
      · exact u9 0 r (by omega) hr
theorem x_ZB.hour1 {k : Nat} {Z : xZ} (h : x_ZB k Z) (hk : k ≤ 50000) : x_ZB (k + 1) (z_hour1 Z) := h.qt (h.2.1.pass h.1.1.1.1 hk)
theorem x_ZB.actG {g : Nat → Nat} {w : Nat → Nat → Nat} (hg : ∀ s, g s < 2 ^ 31) (hw : ∀ s n, 0 < n → w s n < n) {k : Nat} {Z : xZ} (h : x_ZB k Z) (hk : k ≤ 50000) : x_ZB (k + 1) (z_actG g w Z) := by
  have hP : z_P Z ≤ 6 := h.1.1.1.2.2.2
  have hR : z_R Z ≤ 6 := h.1.1.1.2.1
  unfold z_actG
  by_cases c0 : z_P Z = 0
  · rw [if_pos c0]; exact h.mono (Nat.le_succ k)
  · rw [if_neg c0]
    have hp : w (g (g (z_s Z))) (z_P Z) < z_P Z := hw _ _ (by omega)
    by_cases c1 : w (g (z_s Z)) 4 ≤ 1
    · rw [if_pos c1]; exact (h.s (hg _)).q (h.2.1.speak (by omega) hk)
    · rw [if_neg c1]
      by_cases c2 : w (g (z_s Z)) 4 = 2
      · rw [if_pos c2]
        by_cases c3 : z_D Z = 0
        · rw [if_pos c3]; exact (h.s (hg _)).mono (Nat.le_succ k)
        · rw [if_neg c3]
          have hd : w (g (g (g (z_s Z)))) (z_D Z) < z_D Z := hw _ _ (by omega)
          by_cases c4 : s_behind (z_F Z) (w (g (g (g (z_s Z)))) (z_D Z)) (q_pl (z_Q Z) (w (g (g (z_s Z))) (z_P Z))) = -1
          · rw [if_pos c4]; exact (h.s (hg _)).mono (Nat.le_succ k)
          · rw [if_neg c4]
            obtain ⟨t, ht, et⟩ := (s_behind_in (R := z_R Z) (r := q_pl (z_Q Z) (w (g (g (z_s Z))) (z_P Z))) (fun d hd => ⟨(h.1.1.2.1 d hd).1, (h.1.1.2.1 d hd).2.1⟩) hd).resolve_left c4
            rw [et, i_n_nI (by omega)]
            exact (h.s (hg _)).q (h.2.1.go ht)
      · rw [if_neg c2]; exact (h.s (hg _)).q (h.2.1.out (h.2.1.1.2.2.2.2.2.1 _ hp))
theorem x_ZB.act {k : Nat} {Z : xZ} (h : x_ZB k Z) (hk : k ≤ 50000) : x_ZB (k + 1) (z_act Z) := h.actG s_lcg_lt s_dw_lt hk
theorem z_actG_W (g : Nat → Nat) (w : Nat → Nat → Nat) (Z : xZ) : (z_actG g w Z).1 = Z.1 := by
  unfold z_actG
  by_cases c0 : z_P Z = 0
  · rw [if_pos c0]
  · rw [if_neg c0]
    by_cases c1 : w (g (z_s Z)) 4 ≤ 1
    · rw [if_pos c1]
    · rw [if_neg c1]
      by_cases c2 : w (g (z_s Z)) 4 = 2
      · rw [if_pos c2]
        by_cases c3 : z_D Z = 0
        · rw [if_pos c3]
        · rw [if_neg c3]
          split <;> rfl
      · rw [if_neg c2]
theorem z_act_W (Z : xZ) : (z_act Z).1 = Z.1 := z_actG_W s_lcg s_dw Z
theorem x_ZB.drift1 {k : Nat} {Z : xZ} (h : x_ZB k Z) (hk : k + 1 ≤ 50000) : x_ZB (k + 2) (z_drift1 Z) := by
  have h1 := h.t.act (by omega)
  exact h1.q (h1.2.1.pass h1.1.1.1.1 (by omega))
theorem x_ZB.iter {f : xZ → xZ} {m : Nat} (hf : ∀ k Z, x_ZB k Z → k + m ≤ 50001 → x_ZB (k + m) (f Z)) : ∀ n k Z, x_ZB k Z → k + n * m ≤ 50001 → x_ZB (k + n * m) (z_iter f n Z)
  | 0, k, Z, h, _ => by rw [Nat.zero_mul]; exact h
  | n + 1, k, Z, h, hk => by
    have e : (n + 1) * m = m + n * m := by rw [Nat.succ_mul]; omega
    rw [z_iter, e, ← Nat.add_assoc]
    exact x_ZB.iter hf n (k + m) (f Z) (hf k Z h (by omega)) (by omega)
