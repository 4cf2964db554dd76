/-! THE MODEL's clause, against the class's -/
theorem e_num_keep {tx : Nat → Nat} {n lw hi : Nat} {E : xE} (h : ¬ E.1 = 0) : (e_num tx n lw hi E).2.1 = E.1 ∧ (e_num tx n lw hi E).2.2.1 = E.2.1 := by
  unfold e_num
  rw [e_failIf_k3 h, e_failIf_k3 h]; exact ⟨rfl, rfl⟩
theorem e_rq_lt {tx : Nat → Nat} {n wat : Nat} {E : xE} {W : xW} (h : W.2.1 < 6) : e_rq tx n wat E W = e_num tx n 0 21 E := by unfold e_rq; rw [e_failIf_n (decide_eq_false (by omega))]
theorem e_nq_lt {tx : Nat → Nat} {n wat : Nat} {E : xE} {W : xW} (h : W.1 = 0) : e_nq tx n wat E W = e_num tx n 1 21 E := by unfold e_nq; rw [e_failIf_n (decide_eq_false (fun z => z h))]
theorem e_hqk_lt {tx : Nat → Nat} {n wat : Nat} {E : xE} {W : xW} (h : W.2.2.2.1 < 6) : e_hqk tx n wat E W = e_num tx n 0 5 E := by unfold e_hqk; rw [e_failIf_n (decide_eq_false (by omega))]
theorem e_dqa_lt {tx : Nat → Nat} {n wat : Nat} {E : xE} {W : xW} (h : W.2.2.1 < 8) : e_dqa tx n wat E W = e_num tx n 0 W.2.1 E := by unfold e_dqa; rw [e_failIf_n (decide_eq_false (by omega))]
theorem e_dqb_eq {tx : Nat → Nat} {n wat : Nat} {E : xE} {W : xW} : e_dqb tx n wat E W = e_num tx n 0 W.2.1 (e_dqa tx n wat E W).2 := by unfold e_dqb; rw [e_num_skip]
/-- the second room of a door -/
theorem e_nu_door {tx : Nat → Nat} {n R : Nat} {X : Nat × xE} (hX : X.1 < 1000) {v : Int32} (hv : v = if X.2.1 = 0 then nI X.1 else nI 0) : (e_nu tx n 0 R v X.2).2 = e_failIf (decide (X.1 = (e_num tx n 0 R X.2).1)) 4 (e_skip tx n X.2).2.2 (e_num tx n 0 R X.2).2 := by
  show e_failIf (decide (v = nI (e_num tx n 0 R X.2).1)) 4 (s_skip tx n X.2.2.2) (e_num tx n 0 R X.2).2 = e_failIf _ 4 (s_skip tx n X.2.2.2) _
  by_cases h : X.2.1 = 0
  · rw [if_pos h] at hv
    subst hv
    have hb := e_num_lt tx n 0 R X.2
    have e : (nI X.1 = nI (e_num tx n 0 R X.2).1) = (X.1 = (e_num tx n 0 R X.2).1) := propext (nI_eq (by omega) (by omega))
    simp only [e]
  · have h1 : ¬ (e_num tx n 0 R X.2).2.1 = 0 := fun z => h (e_num_fk z)
    rw [e_failIf_keep h1, e_failIf_keep h1]
theorem e_dqt_eq {tx : Nat → Nat} {n wat : Nat} {E : xE} {W : xW} (h : W.2.2.1 < 8) {v : Int32} (hv : v = if (e_num tx n 0 W.2.1 E).2.1 = 0 then nI (e_num tx n 0 W.2.1 E).1 else nI 0) : e_dqt tx n wat E W = e_num tx n 0 10 (e_nu tx n 0 W.2.1 v (e_num tx n 0 W.2.1 E).2).2 := by
  unfold e_dqt
  rw [e_nu_door (e_num_lt tx n 0 W.2.1 E) hv, e_dqb_eq, e_dqa_lt h]
def x_PW (W : xW) (M : Nat → Nat → Int32) (rh rr rd rp : Nat) : Prop := rh = W.1 ∧ rr = W.2.1 ∧ rd = W.2.2.1 ∧ rp = W.2.2.2.1 ∧ (∀ d, d < W.2.2.1 → M 15 d = nI (W.2.2.2.2 1 d) ∧ M 16 d = nI (W.2.2.2.2 2 d) ∧ M 17 d = nI (W.2.2.2.2 3 d)) ∧ (∀ p, p < W.2.2.2.1 → M 18 p = nI (W.2.2.2.2 4 p) ∧ M 19 p = nI (W.2.2.2.2 5 p) ∧ M 20 (45 + p) = nI (W.2.2.2.2 6 p)) ∧ (∀ r, r < W.2.1 → M 20 (3 + r) = nI (W.2.2.2.2 0 r)) ∧ (∀ i, i < 3 ∨ 9 ≤ i ∧ i < 15 → M 20 i = nI 0) ∧ ∀ i, 15 ≤ i → i < 45 → M 20 i = -1
theorem x_PW.night {W : xW} {M : Nat → Nat → Int32} {rh rr rd rp v : Nat} (H : x_PW W M rh rr rd rp) : x_PW (v, W.2) M v rr rd rp := ⟨rfl, H.2⟩
theorem x_PW.room {W : xW} {M : Nat → Nat → Int32} {rh rr rd rp v : Nat} (H : x_PW W M rh rr rd rp) (hr : rr < 6) : x_PW (W.1, W.2.1 + 1, W.2.2.1, W.2.2.2.1, s_row W.2.2.2.2 0 (s_snoc W.2.1 (W.2.2.2.2 0) v)) (s_arr M 20 (upd (M 20) (3 + rr) (nI v))) rh (rr + 1) rd rp := by
  obtain ⟨h1, h2, h3, h4, h5, h6, h7, h8, h9⟩ := H
  refine ⟨h1, by rw [h2], h3, h4, h5, fun p hp => ⟨(h6 p hp).1, (h6 p hp).2.1, ?_⟩, fun r hr2 => ?_, fun i hi => ?_, fun i h10 h11 => ?_⟩
  · show upd (M 20) (3 + rr) (nI v) (45 + p) = _; rw [x_upd_ne (by omega)]; exact (h6 p hp).2.2
  · show upd (M 20) (3 + rr) (nI v) (3 + r) = nI (if r = W.2.1 then v else W.2.2.2.2 0 r)
    have hr2 : r < W.2.1 + 1 := hr2
    by_cases e : r = W.2.1
    · subst e; rw [← h2, x_upd_eq, if_pos rfl]
    · rw [x_upd_ne (by omega), if_neg e]; exact h7 r (by omega)
  · show upd (M 20) (3 + rr) (nI v) i = _; rw [x_upd_ne (by omega)]; exact h8 i hi
  · show upd (M 20) (3 + rr) (nI v) i = _; rw [x_upd_ne (by omega)]; exact h9 i h10 h11
theorem x_PW.door {W : xW} {M : Nat → Nat → Int32} {rh rr rd rp x y z : Nat} (H : x_PW W M rh rr rd rp) : x_PW (W.1, W.2.1, W.2.2.1 + 1, W.2.2.2.1, s_row (s_row (s_row W.2.2.2.2 1 (s_snoc W.2.2.1 (W.2.2.2.2 1) x)) 2 (s_snoc W.2.2.1 (W.2.2.2.2 2) y)) 3 (s_snoc W.2.2.1 (W.2.2.2.2 3) z)) (s_arr (s_arr (s_arr M 15 (upd (M 15) rd (nI x))) 16 (upd (M 16) rd (nI y))) 17 (upd (M 17) rd (nI z))) rh rr (rd + 1) rp := by
  obtain ⟨h1, h2, h3, h4, h5, h6, h7, h8, h9⟩ := H
  refine ⟨h1, h2, by rw [h3], h4, fun d hd => ?_, h6, h7, h8, h9⟩
  show upd (M 15) rd (nI x) d = nI (if d = W.2.2.1 then x else W.2.2.2.2 1 d) ∧ upd (M 16) rd (nI y) d = nI (if d = W.2.2.1 then y else W.2.2.2.2 2 d) ∧ upd (M 17) rd (nI z) d = nI (if d = W.2.2.1 then z else W.2.2.2.2 3 d)
  have hd : d < W.2.2.1 + 1 := hd
  by_cases e : d = W.2.2.1
  · subst e; rw [← h3, x_upd_eq, x_upd_eq, x_upd_eq, if_pos rfl, if_pos rfl, if_pos rfl]; exact ⟨rfl, rfl, rfl⟩
  · rw [x_upd_ne (by omega), x_upd_ne (by omega), x_upd_ne (by omega), if_neg e, if_neg e, if_neg e]; exact h5 d (by omega)
theorem x_PW.heir {W : xW} {M : Nat → Nat → Int32} {rh rr rd rp x y z : Nat} (H : x_PW W M rh rr rd rp) (hr : W.2.1 ≤ 6) : x_PW (W.1, W.2.1, W.2.2.1, W.2.2.2.1 + 1, s_row (s_row (s_row W.2.2.2.2 4 (s_snoc W.2.2.2.1 (W.2.2.2.2 4) x)) 5 (s_snoc W.2.2.2.1 (W.2.2.2.2 5) y)) 6 (s_snoc W.2.2.2.1 (W.2.2.2.2 6) z)) (s_arr (s_arr (s_arr M 18 (upd (M 18) rp (nI x))) 19 (upd (M 19) rp (nI y))) 20 (upd (M 20) (45 + rp) (nI z))) rh rr rd (rp + 1) := by
  obtain ⟨h1, h2, h3, h4, h5, h6, h7, h8, h9⟩ := H
  refine ⟨h1, h2, h3, by rw [h4], h5, fun p hp => ?_, fun r hr2 => ?_, fun i hi => ?_, fun i h10 h11 => ?_⟩
  · show upd (M 18) rp (nI x) p = nI (if p = W.2.2.2.1 then x else W.2.2.2.2 4 p) ∧ upd (M 19) rp (nI y) p = nI (if p = W.2.2.2.1 then y else W.2.2.2.2 5 p) ∧ upd (M 20) (45 + rp) (nI z) (45 + p) = nI (if p = W.2.2.2.1 then z else W.2.2.2.2 6 p)
    have hp : p < W.2.2.2.1 + 1 := hp
    by_cases e : p = W.2.2.2.1
    · subst e; rw [← h4, x_upd_eq, x_upd_eq, x_upd_eq, if_pos rfl, if_pos rfl, if_pos rfl]; exact ⟨rfl, rfl, rfl⟩
    · rw [x_upd_ne (by omega), x_upd_ne (by omega), x_upd_ne (by omega), if_neg e, if_neg e, if_neg e]; exact h6 p (by omega)
  · show upd (M 20) (45 + rp) (nI z) (3 + r) = _; have hr2 : r < W.2.1 := hr2; rw [x_upd_ne (by omega)]; exact h7 r hr2
  · show upd (M 20) (45 + rp) (nI z) i = _; rw [x_upd_ne (by omega)]; exact h8 i hi
  · show upd (M 20) (45 + rp) (nI z) i = _; rw [x_upd_ne (by omega)]; exact h9 i h10 h11
def x_PR (EW : xE × xW) (M : Nat → Nat → Int32) (a w : Nat) (wa : Int32) (rh rr rd rp : Nat) : Prop := x_PE EW.1 a w wa ∧ (EW.1.1 = 0 → x_PW EW.2 M rh rr rd rp)
/-- a fault told at the word -/
theorem x_PR.bad {EW : xE × xW} {M : Nat → Nat → Int32} {a rh rr rd rp kd pos : Nat} (hk : ¬ kd = 0) (hk2 : kd ≤ 100) (ha : a ≤ 1000) (h1 : EW.1.1 = kd) (h2 : EW.1.2.1 = nI pos) : x_PR EW M a kd (nI pos) rh rr rd rp :=
  ⟨⟨fun z => absurd (h1.symm.trans z) hk, fun _ => ⟨h1.symm, h2.symm⟩, ha, by omega⟩, fun z => absurd (h1.symm.trans z) hk⟩
theorem x_PR.room {W : xW} {M : Nat → Nat → Int32} {tx : Nat → Nat} {n wat a w rh rr rd rp : Nat} {wa v : Int32} {E : xE} (H : x_PW W M rh rr rd rp) (hr : W.2.1 < 6) (pe : x_PE (e_end tx n (e_nu tx n 0 21 (-1) E).2) a w wa) (hv : v = if (e_nu tx n 0 21 (-1) E).2.1 = 0 then nI (e_nu tx n 0 21 (-1) E).1 else nI 0) : x_PR (e_room tx n wat E W) (s_arr M 20 (upd (M 20) (3 + rr) v)) a w wa rh (rr + 1) rd rp := by
  rw [e_nu_m1] at pe hv
  have h2 := H.2.1
  refine ⟨by show x_PE (e_end tx n (e_rq tx n wat E W).2) a w wa; rw [e_rq_lt hr]; exact pe, fun z => ?_⟩
  have z : (e_end tx n (e_rq tx n wat E W).2).1 = 0 := z
  rw [e_rq_lt hr] at z
  rw [if_pos (e_end_fk z)] at hv
  subst hv
  show x_PW (if (e_end tx n (e_rq tx n wat E W).2).1 = 0 then _ else _) _ _ _ _ _
  rw [e_rq_lt hr, if_pos z]
  exact H.room (by omega)
theorem x_PR.night {W : xW} {M : Nat → Nat → Int32} {tx : Nat → Nat} {n wat a w rh rr rd rp v : Nat} {wa : Int32} {E : xE} (H : x_PW W M rh rr rd rp) (h0 : W.1 = 0) (pe : x_PE (e_end tx n (e_nu tx n 1 21 (-1) E).2) a w wa) (hv : v = if (e_nu tx n 1 21 (-1) E).2.1 = 0 then (e_nu tx n 1 21 (-1) E).1 else 0) : x_PR (e_night tx n wat E W) M a w wa v rr rd rp := by
  rw [e_nu_m1] at pe hv
  refine ⟨by show x_PE (e_end tx n (e_nq tx n wat E W).2) a w wa; rw [e_nq_lt h0]; exact pe, fun z => ?_⟩
  have z : (e_end tx n (e_nq tx n wat E W).2).1 = 0 := z
  rw [e_nq_lt h0] at z
  rw [if_pos (e_end_fk z)] at hv
  subst hv
  show x_PW (if (e_end tx n (e_nq tx n wat E W).2).1 = 0 then _ else _) _ _ _ _ _
  rw [e_nq_lt h0, if_pos z]
  exact H.night
theorem x_PR.heir {W : xW} {M : Nat → Nat → Int32} {tx : Nat → Nat} {n wat a w rh rr rd rp : Nat} {wa v1 v2 v3 : Int32} {E : xE} (H : x_PW W M rh rr rd rp) (hr : W.2.2.2.1 < 6) (hR : W.2.1 ≤ 6) (pe : x_PE (e_end tx n (e_nu tx n 0 rr (-1) (e_nu tx n 1 21 (-1) (e_nu tx n 0 5 (-1) E).2).2).2) a w wa)
    (hv1 : v1 = if (e_nu tx n 0 5 (-1) E).2.1 = 0 then nI (e_nu tx n 0 5 (-1) E).1 else nI 0) (hv2 : v2 = if (e_nu tx n 1 21 (-1) (e_nu tx n 0 5 (-1) E).2).2.1 = 0 then nI (e_nu tx n 1 21 (-1) (e_nu tx n 0 5 (-1) E).2).1 else nI 0) (hv3 : v3 = if (e_nu tx n 0 rr (-1) (e_nu tx n 1 21 (-1) (e_nu tx n 0 5 (-1) E).2).2).2.1 = 0 then nI (e_nu tx n 0 rr (-1) (e_nu tx n 1 21 (-1) (e_nu tx n 0 5 (-1) E).2).2).1 else nI 0) : x_PR (e_heir tx n wat E W) (s_arr (s_arr (s_arr M 18 (upd (M 18) rp v1)) 19 (upd (M 19) rp v2)) 20 (upd (M 20) (45 + rp) v3)) a w wa rh rr rd (rp + 1) := by
  have h2 := H.2.1
  simp only [e_nu_m1] at pe hv1 hv2 hv3
  rw [h2] at pe hv3
  have ek : e_hqk tx n wat E W = e_num tx n 0 5 E := e_hqk_lt hr
  have ev : e_hqv tx n wat E W = e_num tx n 1 21 (e_num tx n 0 5 E).2 := by unfold e_hqv; rw [ek]
  have er : e_hqr tx n wat E W = e_num tx n 0 W.2.1 (e_num tx n 1 21 (e_num tx n 0 5 E).2).2 := by unfold e_hqr; rw [ev]
  refine ⟨by show x_PE (e_end tx n (e_hqr tx n wat E W).2) a w wa; rw [er]; exact pe, fun z => ?_⟩
  have z : (e_end tx n (e_hqr tx n wat E W).2).1 = 0 := z
  rw [er] at z
  have z3 := e_end_fk z
  have z2 := e_num_fk z3
  have z1 := e_num_fk z2
  rw [if_pos z3] at hv3
  rw [if_pos z2] at hv2
  rw [if_pos z1] at hv1
  subst hv1 hv2 hv3
  show x_PW (if (e_end tx n (e_hqr tx n wat E W).2).1 = 0 then _ else _) _ _ _ _ _
  rw [er, if_pos z, ev, ek]
  exact H.heir hR
theorem x_PR.door {W : xW} {M : Nat → Nat → Int32} {tx : Nat → Nat} {n wat a w rh rr rd rp : Nat} {wa v1 v2 v3 : Int32} {E : xE} (H : x_PW W M rh rr rd rp) (hr : W.2.2.1 < 8) (hv1 : v1 = if (e_nu tx n 0 rr (-1) E).2.1 = 0 then nI (e_nu tx n 0 rr (-1) E).1 else nI 0) (pe : x_PE (e_end tx n (e_nu tx n 0 10 (-1) (e_nu tx n 0 rr v1 (e_nu tx n 0 rr (-1) E).2).2).2) a w wa)
    (hv2 : v2 = if (e_nu tx n 0 rr v1 (e_nu tx n 0 rr (-1) E).2).2.1 = 0 then nI (e_nu tx n 0 rr v1 (e_nu tx n 0 rr (-1) E).2).1 else nI 0) (hv3 : v3 = if (e_nu tx n 0 10 (-1) (e_nu tx n 0 rr v1 (e_nu tx n 0 rr (-1) E).2).2).2.1 = 0 then nI (e_nu tx n 0 10 (-1) (e_nu tx n 0 rr v1 (e_nu tx n 0 rr (-1) E).2).2).1 else nI 0) : x_PR (e_door tx n wat E W) (s_arr (s_arr (s_arr M 15 (upd (M 15) rd v1)) 16 (upd (M 16) rd v2)) 17 (upd (M 17) rd v3)) a w wa rh rr (rd + 1) rp := by
  have h2 := H.2.1
  simp only [e_nu_m1] at pe hv1 hv2 hv3
  rw [h2] at pe hv1 hv2 hv3
  have ea : e_dqa tx n wat E W = e_num tx n 0 W.2.1 E := e_dqa_lt hr
  have et : e_dqt tx n wat E W = e_num tx n 0 10 (e_nu tx n 0 W.2.1 v1 (e_num tx n 0 W.2.1 E).2).2 := e_dqt_eq hr hv1
  have eb : (e_dqb tx n wat E W).1 = (e_nu tx n 0 W.2.1 v1 (e_num tx n 0 W.2.1 E).2).1 := by rw [e_dqb_eq, ea]; rfl
  refine ⟨by show x_PE (e_end tx n (e_dqt tx n wat E W).2) a w wa; rw [et]; exact pe, fun z => ?_⟩
  have z : (e_end tx n (e_dqt tx n wat E W).2).1 = 0 := z
  rw [et] at z
  have z3 := e_end_fk z
  have z2 := e_num_fk z3
  have z1 := e_num_fk (e_failIf_fk (show ¬ 4 = 0 by decide) z2).2
  rw [if_pos z3] at hv3
  rw [if_pos z2] at hv2
  rw [if_pos z1] at hv1
  subst hv2 hv3
  show x_PW (if (e_end tx n (e_dqt tx n wat E W).2).1 = 0 then _ else _) _ _ _ _ _
  rw [et, if_pos z, eb, ea]
  have q := H.door (x := (e_num tx n 0 W.2.1 E).1) (y := (e_nu tx n 0 W.2.1 v1 (e_num tx n 0 W.2.1 E).2).1) (z := (e_num tx n 0 10 (e_nu tx n 0 W.2.1 v1 (e_num tx n 0 W.2.1 E).2).2).1)
  rw [← hv1] at q
  exact q
/-- too many: the fault is the word's -/
theorem e_many {tx : Nat → Nat} {n wat : Nat} {E : xE} {W : xW} (h0 : E.1 = 0) : (¬ W.1 = 0 → (e_night tx n wat E W).1.1 = 3 ∧ (e_night tx n wat E W).1.2.1 = nI wat) ∧ (6 ≤ W.2.1 → (e_room tx n wat E W).1.1 = 3 ∧ (e_room tx n wat E W).1.2.1 = nI wat) ∧ (8 ≤ W.2.2.1 → (e_door tx n wat E W).1.1 = 3 ∧ (e_door tx n wat E W).1.2.1 = nI wat) ∧ (6 ≤ W.2.2.2.1 → (e_heir tx n wat E W).1.1 = 3 ∧ (e_heir tx n wat E W).1.2.1 = nI wat) := by
  have t3 : ¬ 3 = 0 := by decide
  have K : ∀ {lw hi : Nat} {X : xE}, X.1 = 3 → X.2.1 = nI wat → (e_num tx n lw hi X).2.1 = 3 ∧ (e_num tx n lw hi X).2.2.1 = nI wat := fun {lw hi X} h1 h2 => by
    have := e_num_keep (tx := tx) (n := n) (lw := lw) (hi := hi) (E := X) (by rw [h1]; exact t3)
    exact ⟨this.1.trans h1, this.2.trans h2⟩
  have L : ∀ {X : xE}, X.1 = 3 → X.2.1 = nI wat → (e_end tx n X).1 = 3 ∧ (e_end tx n X).2.1 = nI wat := fun {X} h1 h2 => by
    have := e_end_keep (tx := tx) (n := n) (E := X) (by rw [h1]; exact t3)
    exact ⟨this.1.trans h1, this.2.trans h2⟩
  refine ⟨fun h => ?_, fun h => ?_, fun h => ?_, fun h => ?_⟩
  · have e : e_nq tx n wat E W = e_num tx n 1 21 (3, nI wat, E.2.2) := by unfold e_nq; rw [e_failIf_t h0 (decide_eq_true h)]
    show (e_end tx n (e_nq tx n wat E W).2).1 = 3 ∧ (e_end tx n (e_nq tx n wat E W).2).2.1 = nI wat
    rw [e]; exact L (K (X := (3, nI wat, E.2.2)) rfl rfl).1 (K (X := (3, nI wat, E.2.2)) rfl rfl).2
  · have e : e_rq tx n wat E W = e_num tx n 0 21 (3, nI wat, E.2.2) := by unfold e_rq; rw [e_failIf_t h0 (decide_eq_true h)]
    show (e_end tx n (e_rq tx n wat E W).2).1 = 3 ∧ (e_end tx n (e_rq tx n wat E W).2).2.1 = nI wat
    rw [e]; exact L (K (X := (3, nI wat, E.2.2)) rfl rfl).1 (K (X := (3, nI wat, E.2.2)) rfl rfl).2
  · have e : e_dqa tx n wat E W = e_num tx n 0 W.2.1 (3, nI wat, E.2.2) := by unfold e_dqa; rw [e_failIf_t h0 (decide_eq_true h)]
    have k1 := K (X := (3, nI wat, E.2.2)) (lw := 0) (hi := W.2.1) rfl rfl
    rw [← e] at k1
    have k2 := K (X := (e_dqa tx n wat E W).2) (lw := 0) (hi := W.2.1) k1.1 k1.2
    rw [← e_dqb_eq] at k2
    have k3 : e_dqt tx n wat E W = e_num tx n 0 10 (e_dqb tx n wat E W).2 := by unfold e_dqt; rw [e_failIf_keep (by rw [k2.1]; exact t3)]
    have k4 := K (X := (e_dqb tx n wat E W).2) (lw := 0) (hi := 10) k2.1 k2.2
    rw [← k3] at k4
    show (e_end tx n (e_dqt tx n wat E W).2).1 = 3 ∧ (e_end tx n (e_dqt tx n wat E W).2).2.1 = nI wat
    exact L k4.1 k4.2
  · have e : e_hqk tx n wat E W = e_num tx n 0 5 (3, nI wat, E.2.2) := by unfold e_hqk; rw [e_failIf_t h0 (decide_eq_true h)]
    have k1 := K (X := (3, nI wat, E.2.2)) (lw := 0) (hi := 5) rfl rfl
    rw [← e] at k1
    have k2 := K (X := (e_hqk tx n wat E W).2) (lw := 1) (hi := 21) k1.1 k1.2
    have ev : e_hqv tx n wat E W = e_num tx n 1 21 (e_hqk tx n wat E W).2 := by unfold e_hqv; rfl
    rw [← ev] at k2
    have k3 := K (X := (e_hqv tx n wat E W).2) (lw := 0) (hi := W.2.1) k2.1 k2.2
    have er : e_hqr tx n wat E W = e_num tx n 0 W.2.1 (e_hqv tx n wat E W).2 := by unfold e_hqr; rfl
    rw [← er] at k3
    show (e_end tx n (e_hqr tx n wat E W).2).1 = 3 ∧ (e_end tx n (e_hqr tx n wat E W).2).2.1 = nI wat
    exact L k3.1 k3.2
theorem e_fail_0 {kd pos : Nat} {E : xE} (h : E.1 = 0) : e_fail kd pos E = (kd, nI pos, E.2.2) := by unfold e_fail; rw [if_pos h]
