/-! THE MODEL's night changes -/
theorem x_upd_ne {f : Nat → Int32} {i j : Nat} {v : Int32} (h : ¬ j = i) : upd f i v j = f j := by simp [upd, h]
theorem x_upd_eq {f : Nat → Int32} {i : Nat} {v : Int32} : upd f i v i = v := by simp [upd]
theorem x_stq.hr {f : Nat → Int32} {R P : Nat} {Q : xQ} (H : x_stq f R P Q) (hR : R ≤ 6) (v : Nat) : x_stq (upd f (0) (nI v)) R P (v, Q.2.1, Q.2.2.1, Q.2.2.2.1, Q.2.2.2.2.1, Q.2.2.2.2.2.1, Q.2.2.2.2.2.2.1, Q.2.2.2.2.2.2.2) := by
  obtain ⟨q0, q1, q2, q3, q9, q15, q21, q45⟩ := H
  exact ⟨x_upd_eq, (x_upd_ne (by omega)).trans q1, (x_upd_ne (by omega)).trans q2, fun x hx => (x_upd_ne (by omega)).trans (q3 x hx), fun x hx => (x_upd_ne (by omega)).trans (q9 x hx), fun x hx => (x_upd_ne (by omega)).trans (q15 x hx), fun i x hi hx => (x_upd_ne (by omega)).trans (q21 i x hi hx), fun x hx => (x_upd_ne (by omega)).trans (q45 x hx)⟩
theorem x_stq.nt {f : Nat → Int32} {R P : Nat} {Q : xQ} (H : x_stq f R P Q) (hR : R ≤ 6) (v : Nat) : x_stq (upd f (1) (nI v)) R P (Q.1, v, Q.2.2.1, Q.2.2.2.1, Q.2.2.2.2.1, Q.2.2.2.2.2.1, Q.2.2.2.2.2.2.1, Q.2.2.2.2.2.2.2) := by
  obtain ⟨q0, q1, q2, q3, q9, q15, q21, q45⟩ := H
  exact ⟨(x_upd_ne (by omega)).trans q0, x_upd_eq, (x_upd_ne (by omega)).trans q2, fun x hx => (x_upd_ne (by omega)).trans (q3 x hx), fun x hx => (x_upd_ne (by omega)).trans (q9 x hx), fun x hx => (x_upd_ne (by omega)).trans (q15 x hx), fun i x hi hx => (x_upd_ne (by omega)).trans (q21 i x hi hx), fun x hx => (x_upd_ne (by omega)).trans (q45 x hx)⟩
theorem x_stq.sy {f : Nat → Int32} {R P : Nat} {Q : xQ} (H : x_stq f R P Q) (hR : R ≤ 6) (v : Nat) : x_stq (upd f (2) (nI v)) R P (Q.1, Q.2.1, v, Q.2.2.2.1, Q.2.2.2.2.1, Q.2.2.2.2.2.1, Q.2.2.2.2.2.2.1, Q.2.2.2.2.2.2.2) := by
  obtain ⟨q0, q1, q2, q3, q9, q15, q21, q45⟩ := H
  exact ⟨(x_upd_ne (by omega)).trans q0, (x_upd_ne (by omega)).trans q1, x_upd_eq, fun x hx => (x_upd_ne (by omega)).trans (q3 x hx), fun x hx => (x_upd_ne (by omega)).trans (q9 x hx), fun x hx => (x_upd_ne (by omega)).trans (q15 x hx), fun i x hi hx => (x_upd_ne (by omega)).trans (q21 i x hi hx), fun x hx => (x_upd_ne (by omega)).trans (q45 x hx)⟩
theorem x_stq.bu {f : Nat → Int32} {R P : Nat} {Q : xQ} (H : x_stq f R P Q) (hR : R ≤ 6) {r : Nat} (hr : r < R) (v : Nat) : x_stq (upd f (3 + r) (nI v)) R P (Q.1, Q.2.1, Q.2.2.1, (fun x => if x = r then v else Q.2.2.2.1 x), Q.2.2.2.2.1, Q.2.2.2.2.2.1, Q.2.2.2.2.2.2.1, Q.2.2.2.2.2.2.2) := by
  obtain ⟨q0, q1, q2, q3, q9, q15, q21, q45⟩ := H
  exact ⟨(x_upd_ne (by omega)).trans q0, (x_upd_ne (by omega)).trans q1, (x_upd_ne (by omega)).trans q2, fun x hx => by
      by_cases e : x = r
      · subst e; rw [x_upd_eq]; show nI v = nI (if x = x then v else _); rw [if_pos rfl]
      · rw [x_upd_ne (by omega), q3 x hx]; show _ = nI (if x = r then v else _); rw [if_neg e], fun x hx => (x_upd_ne (by omega)).trans (q9 x hx), fun x hx => (x_upd_ne (by omega)).trans (q15 x hx), fun i x hi hx => (x_upd_ne (by omega)).trans (q21 i x hi hx), fun x hx => (x_upd_ne (by omega)).trans (q45 x hx)⟩
theorem x_stq.ou {f : Nat → Int32} {R P : Nat} {Q : xQ} (H : x_stq f R P Q) (hR : R ≤ 6) {r : Nat} (hr : r < R) (b : Bool) : x_stq (upd f (9 + r) (x_b b)) R P (Q.1, Q.2.1, Q.2.2.1, Q.2.2.2.1, Q.2.2.2.2.1, (fun x => if x = r then b else Q.2.2.2.2.2.1 x), Q.2.2.2.2.2.2.1, Q.2.2.2.2.2.2.2) := by
  obtain ⟨q0, q1, q2, q3, q9, q15, q21, q45⟩ := H
  exact ⟨(x_upd_ne (by omega)).trans q0, (x_upd_ne (by omega)).trans q1, (x_upd_ne (by omega)).trans q2, fun x hx => (x_upd_ne (by omega)).trans (q3 x hx), fun x hx => by
      by_cases e : x = r
      · subst e; rw [x_upd_eq]; show x_b b = x_b (if x = x then b else _); rw [if_pos rfl]
      · rw [x_upd_ne (by omega), q9 x hx]; show _ = x_b (if x = r then b else _); rw [if_neg e], fun x hx => (x_upd_ne (by omega)).trans (q15 x hx), fun i x hi hx => (x_upd_ne (by omega)).trans (q21 i x hi hx), fun x hx => (x_upd_ne (by omega)).trans (q45 x hx)⟩
theorem x_stq.ow {f : Nat → Int32} {R P : Nat} {Q : xQ} (H : x_stq f R P Q) (hR : R ≤ 6) {r : Nat} (hr : r < R) (v : Int32) : x_stq (upd f (15 + r) (v)) R P (Q.1, Q.2.1, Q.2.2.1, Q.2.2.2.1, Q.2.2.2.2.1, Q.2.2.2.2.2.1, (fun x => if x = r then v else Q.2.2.2.2.2.2.1 x), Q.2.2.2.2.2.2.2) := by
  obtain ⟨q0, q1, q2, q3, q9, q15, q21, q45⟩ := H
  exact ⟨(x_upd_ne (by omega)).trans q0, (x_upd_ne (by omega)).trans q1, (x_upd_ne (by omega)).trans q2, fun x hx => (x_upd_ne (by omega)).trans (q3 x hx), fun x hx => (x_upd_ne (by omega)).trans (q9 x hx), fun x hx => by
      by_cases e : x = r
      · subst e; rw [x_upd_eq]; show v = (if x = x then v else _); rw [if_pos rfl]
      · rw [x_upd_ne (by omega), q15 x hx]; show _ = (if x = r then v else _); rw [if_neg e], fun i x hi hx => (x_upd_ne (by omega)).trans (q21 i x hi hx), fun x hx => (x_upd_ne (by omega)).trans (q45 x hx)⟩
theorem x_stq.pl {f : Nat → Int32} {R P : Nat} {Q : xQ} (H : x_stq f R P Q) (hR : R ≤ 6) (hP : P ≤ 6) {p : Nat} (hp : p < P) (v : Nat) : x_stq (upd f (45 + p) (nI v)) R P (Q.1, Q.2.1, Q.2.2.1, Q.2.2.2.1, (fun x => if x = p then v else Q.2.2.2.2.1 x), Q.2.2.2.2.2.1, Q.2.2.2.2.2.2.1, Q.2.2.2.2.2.2.2) := by
  obtain ⟨q0, q1, q2, q3, q9, q15, q21, q45⟩ := H
  exact ⟨(x_upd_ne (by omega)).trans q0, (x_upd_ne (by omega)).trans q1, (x_upd_ne (by omega)).trans q2, fun x hx => (x_upd_ne (by omega)).trans (q3 x hx), fun x hx => (x_upd_ne (by omega)).trans (q9 x hx), fun x hx => (x_upd_ne (by omega)).trans (q15 x hx), fun i x hi hx => (x_upd_ne (by omega)).trans (q21 i x hi hx), fun x hx => by
      by_cases e : x = p
      · subst e; rw [x_upd_eq]; show nI v = nI (if x = x then v else _); rw [if_pos rfl]
      · rw [x_upd_ne (by omega), q45 x hx]; show _ = nI (if x = p then v else _); rw [if_neg e]⟩
theorem x_stq.la {f : Nat → Int32} {R P : Nat} {Q : xQ} (H : x_stq f R P Q) (hR : R ≤ 6) {y r : Nat} (hy : y < 4) (hr : r < R) (v : Int32) : x_stq (upd f (21 + 6 * y + r) (v)) R P (Q.1, Q.2.1, Q.2.2.1, Q.2.2.2.1, Q.2.2.2.2.1, Q.2.2.2.2.2.1, Q.2.2.2.2.2.2.1, (fun i x => if i = y ∧ x = r then v else Q.2.2.2.2.2.2.2 i x)) := by
  obtain ⟨q0, q1, q2, q3, q9, q15, q21, q45⟩ := H
  exact ⟨(x_upd_ne (by omega)).trans q0, (x_upd_ne (by omega)).trans q1, (x_upd_ne (by omega)).trans q2, fun x hx => (x_upd_ne (by omega)).trans (q3 x hx), fun x hx => (x_upd_ne (by omega)).trans (q9 x hx), fun x hx => (x_upd_ne (by omega)).trans (q15 x hx), fun i x hi hx => by
      by_cases e : i = y ∧ x = r
      · obtain ⟨rfl, rfl⟩ := e; rw [x_upd_eq]; show v = (if i = i ∧ x = x then v else _); rw [if_pos ⟨rfl, rfl⟩]
      · rw [x_upd_ne (by omega), q21 i x hi hx]; show _ = (if i = y ∧ x = r then v else _); rw [if_neg e], fun x hx => (x_upd_ne (by omega)).trans (q45 x hx)⟩
theorem x_stq.eq {f : Nat → Int32} {R P : Nat} {Q Q' : xQ} (H : x_stq f R P Q) (e0 : q_hr Q = q_hr Q') (e1 : q_nt Q = q_nt Q') (e2 : q_sy Q = q_sy Q') (e3 : ∀ r, r < R → q_bu Q r = q_bu Q' r) (e4 : ∀ r, r < R → q_ou Q r = q_ou Q' r) (e5 : ∀ r, r < R → q_ow Q r = q_ow Q' r) (e6 : ∀ k r, k < 4 → r < R → q_la Q k r = q_la Q' k r) (e7 : ∀ p, p < P → q_pl Q p = q_pl Q' p) : x_stq f R P Q' := by
  obtain ⟨q0, q1, q2, q3, q9, q15, q21, q45⟩ := H
  exact ⟨by rw [q0, e0], by rw [q1, e1], by rw [q2, e2], fun r hr => by rw [q3 r hr, e3 r hr], fun r hr => by rw [q9 r hr, e4 r hr], fun r hr => by rw [q15 r hr, e5 r hr], fun k r hk hr => by rw [q21 k r hk hr, e6 k r hk hr], fun p hp => by rw [q45 p hp, e7 p hp]⟩
theorem x_stq.cong {f g : Nat → Int32} {R P : Nat} {Q : xQ} (H : x_stq f R P Q) (hR : R ≤ 6) (hP : P ≤ 6) (h : ∀ i, i < 51 → g i = f i) : x_stq g R P Q := by
  obtain ⟨q0, q1, q2, q3, q9, q15, q21, q45⟩ := H
  exact ⟨(h _ (by omega)).trans q0, (h _ (by omega)).trans q1, (h _ (by omega)).trans q2, fun r hr => (h _ (by omega)).trans (q3 r hr), fun r hr => (h _ (by omega)).trans (q9 r hr), fun r hr => (h _ (by omega)).trans (q15 r hr), fun k r hk hr => (h _ (by omega)).trans (q21 k r hk hr), fun p hp => (h _ (by omega)).trans (q45 p hp)⟩
theorem x_ML.st {h : xH} {Z : xZ} {M : Nat → Nat → Int32} {sd : Nat → Int64} {kp t : Nat → Int32} (C : x_ML h Z M sd kp t) {g : Nat → Int32} {Q : xQ} (hq : x_stq g (z_R Z) (z_P Z) Q) : x_ML (h.set 381 (x_ia 51 g)) (z_setQ Z Q) (s_arr M 8 g) sd kp t :=
  ⟨C.1.arr (i := 8) (by decide) (by decide) (by decide) g, C.2.1, C.2.2.1, C.2.2.2.1, C.2.2.2.2.1, C.2.2.2.2.2.1, C.2.2.2.2.2.2.1, C.2.2.2.2.2.2.2.1, hq, C.2.2.2.2.2.2.2.2.2⟩
def x_KV (h : xH) (Z : xZ) : Option Value → xH → Prop := x_vd (fun h' => x_Model h' Z ∧ x_fD h h')
theorem x_ML.many {h : xH} {Z : xZ} {M : Nat → Nat → Int32} {sd : Nat → Int64} {kp t : Nat → Int32} (C : x_ML h Z M sd kp t) {g : Nat → Int32} (T : xTr) (hw : ∀ j, j < T.1 → x_stq (fun i => g (51 * (T.1 - 1 - j) + i)) (z_R Z) (z_P Z) (T.2 j)) : x_ML ((h.set 382 (x_ia 1530 g)).set 372 (x_mob (z_X Z).1 (z_f Z) (z_N Z) (z_R Z) (z_D Z) (z_P Z) T.1 (z_s Z) (z_S Z).1 (z_B Z).1 t)) (z_setT Z T) (s_arr M 9 g) sd kp t :=
  ⟨(C.1.arr (i := 9) (by decide) (by decide) (by decide) g).obj _, C.2.1, C.2.2.1, C.2.2.2.1, C.2.2.2.2.1, C.2.2.2.2.2.1, C.2.2.2.2.2.2.1, C.2.2.2.2.2.2.2.1, C.2.2.2.2.2.2.2.2.1, hw, C.2.2.2.2.2.2.2.2.2.2⟩
theorem t_rem_lt {Q : xQ} {T : xTr} {f d : Nat → Int32} {R P : Nat} (hR : R ≤ 6) (hP : P ≤ 6) (hT : T.1 < 30) (hq : x_stq f R P Q) (hw : ∀ j, j < T.1 → x_stq (fun i => d (51 * (T.1 - 1 - j) + i)) R P (T.2 j)) : ∀ j, j < T.1 + 1 → x_stq (fun i => va_cpy f d 0 (51 * T.1) 51 (51 * (T.1 + 1 - 1 - j) + i)) R P ((t_rem Q T).2 j) := by
  intro j hj
  show x_stq _ R P (if j = 0 then Q else T.2 (j - 1))
  by_cases e : j = 0
  · subst e
    rw [if_pos rfl]
    refine hq.cong hR hP (fun i hi => ?_)
    show va_cpy f d 0 (51 * T.1) 51 (51 * (T.1 + 1 - 1 - 0) + i) = f i
    unfold va_cpy
    rw [if_pos (by omega), show 0 + (51 * (T.1 + 1 - 1 - 0) + i - 51 * T.1) = i by omega]
  · rw [if_neg e]
    refine (hw (j - 1) (by omega)).cong hR hP (fun i hi => ?_)
    show va_cpy f d 0 (51 * T.1) 51 (51 * (T.1 + 1 - 1 - j) + i) = d (51 * (T.1 - 1 - (j - 1)) + i)
    unfold va_cpy
    rw [if_neg (by omega), show T.1 + 1 - 1 - j = T.1 - 1 - (j - 1) by omega]
theorem t_rem_30 {Q : xQ} {T : xTr} {f d : Nat → Int32} {R P : Nat} (hR : R ≤ 6) (hP : P ≤ 6) (hT : T.1 = 30) (hq : x_stq f R P Q) (hw : ∀ j, j < T.1 → x_stq (fun i => d (51 * (T.1 - 1 - j) + i)) R P (T.2 j)) : ∀ j, j < 30 → x_stq (fun i => va_cpy f (va_cpy d d 51 0 1479) 0 (51 * 29) 51 (51 * (30 - 1 - j) + i)) R P ((t_rem Q T).2 j) := by
  intro j hj
  show x_stq _ R P (if j = 0 then Q else T.2 (j - 1))
  by_cases e : j = 0
  · subst e
    rw [if_pos rfl]
    refine hq.cong hR hP (fun i hi => ?_)
    show va_cpy f _ 0 (51 * 29) 51 (51 * (30 - 1 - 0) + i) = f i
    unfold va_cpy
    rw [if_pos (by omega), show 0 + (51 * (30 - 1 - 0) + i - 51 * 29) = i by omega]
  · rw [if_neg e]
    refine (hw (j - 1) (by omega)).cong hR hP (fun i hi => ?_)
    show va_cpy f _ 0 (51 * 29) 51 (51 * (30 - 1 - j) + i) = d (51 * (T.1 - 1 - (j - 1)) + i)
    unfold va_cpy
    rw [if_neg (by omega), if_pos (by omega), show 51 + (51 * (30 - 1 - j) + i - 0) = 51 * (T.1 - 1 - (j - 1)) + i by omega]
theorem n_notes {h : xH} {Z : xZ} {k : Nat} {M : Nat → Nat → Int32} {sd : Nat → Int64} {kp t : Nat → Int32} (C : x_ML h Z M sd kp t) (hZ : x_ZB k Z) (hk : k ≤ 50000) : x_Met m_X8_notes [.ref 372] h (x_KV h (z_setT Z (t_rem (z_Q Z) (z_T Z)))) := by
  obtain ⟨HM, HZ⟩ := id C
  have mo : h[372]? = some (x_mob (z_X Z).1 (z_f Z) (z_N Z) (z_R Z) (z_D Z) (z_P Z) (z_T Z).1 (z_s Z) (z_S Z).1 (z_B Z).1 t) := HM.1
  have m8 : h[381]? = some (x_ia 51 (M 8)) := HM.2 8 (by decide)
  have m9 : h[382]? = some (x_ia 1530 (M 9)) := HM.2 9 (by decide)
  obtain ⟨w1, w2, w3, w4, w5, w6, w7, hq, wt, wi, wk, ws, wb, wx⟩ := id HZ
  obtain ⟨q0, q1, q2, q3, q9, q15, q21, q45⟩ := id hq
  have q21z : ∀ r, r < z_R Z → M 8 (21 + r) = q_la (z_Q Z) 0 r := fun r hr => q21 0 r (by decide) hr
  have hB : x_HB (z_N Z) (z_R Z) (z_D Z) (z_P Z) (z_F Z) := hZ.1.hb
  have hQ : x_QB (z_N Z) (z_R Z) (z_P Z) (z_Q Z) := hZ.2.1.1
  obtain ⟨⟨b1, b2, b3, b4⟩, b5, b6, b7⟩ := id hB
  obtain ⟨u1, u2, u3, u4, u5, u6, u7, u8, u9⟩ := id hQ
  have bT : (z_T Z).1 ≤ 30 := hZ.2.2.1.1
  have bs : z_s Z < 2 ^ 31 := hZ.2.2.2.2.1
  have bX : (z_X Z).1 ≤ 240 := hZ.2.2.2.2.2.1.1
  have bXc : ∀ i, i < (z_X Z).1 → (z_X Z).2 i < 256 := hZ.2.2.2.2.2.1.2
  have bS : (z_S Z).1 ≤ 6 := hZ.2.2.2.2.2.2.1.1
  have bSr : ∀ i, i < (z_S Z).1 → (z_S Z).2.1 i < z_R Z := hZ.2.2.2.2.2.2.1.2
  have bB : (z_B Z).1 ≤ 20 := hZ.2.2.2.2.2.2.2.1
  have bBr : ∀ i, i < (z_B Z).1 → (z_B Z).2.1 i < z_R Z := hZ.2.2.2.2.2.2.2.2
  refine x_Met.of (lo := [some (.ref 372)]) (by decide) rfl rfl rfl ?_
  refine R_aload_n dX8_notes_0 rfl ?_
  refine R_get dX8_notes_1 f_X8_164 mo rfl ?_
  refine R_bipush (nI 30) dX8_notes_4 rfl ?_
  refine R_neN 36 dX8_notes_6 rfl (by omega) (by omega) (fun c_6 => ?_) (fun c_6 => ?_)
  · skip
    refine R_aload_n dX8_notes_36 rfl ?_
    refine R_get dX8_notes_37 f_X8_38 mo rfl ?_
    refine R_iconst (nI 0) dX8_notes_40 rfl ?_
    refine R_aload_n dX8_notes_41 rfl ?_
    refine R_get dX8_notes_42 f_X8_41 mo rfl ?_
    refine R_bipush (nI 51) dX8_notes_45 rfl ?_
    refine R_aload_n dX8_notes_47 rfl ?_
    refine R_get dX8_notes_48 f_X8_164 mo rfl ?_
    refine R_imulN dX8_notes_51 ?_
    refine R_bipush (nI 51) dX8_notes_52 rfl ?_
    refine R_cS5v (N := m_X8_bring) dX8_notes_54 l_X8_157 i_X8_bring (n_bring (na := 51) (nb := 1530) m8 m9 (by decide) (by omega) (by omega) (by omega) (by omega) (by decide) (by decide)) rfl rfl (fun h54 q_54 => ?_)
    subst q_54
    have mo := (List.getElem?_set_ne (l := h) (i := 382) (j := 372) (a := x_ia 1530 (va_cpy (M 8) (M 9) 0 (51 * (z_T Z).1) 51)) (by omega)).trans mo
    refine R_aload_n dX8_notes_57 rfl ?_
    refine R_dup dX8_notes_58 rfl ?_
    refine R_get dX8_notes_59 f_X8_164 mo rfl ?_
    refine R_iconst (nI 1) dX8_notes_62 rfl ?_
    refine R_iaddN dX8_notes_63 ?_
    refine R_put dX8_notes_64 f_X8_164 mo (Nat.le_of_ble_eq_true rfl) (fun _ => rfl) (fun _ => rfl) ?_
    simp only [List.set_cons_succ, List.set_cons_zero]
    have elt : t_rem (z_Q Z) (z_T Z) = ((z_T Z).1 + 1, (t_rem (z_Q Z) (z_T Z)).2) := Prod.ext (show min ((z_T Z).1 + 1) 30 = (z_T Z).1 + 1 by omega) rfl
    have C2 := C.many ((z_T Z).1 + 1, (t_rem (z_Q Z) (z_T Z)).2) (t_rem_lt b2 b4 (by omega) hq wt)
    exact R_vret dX8_notes_67 rfl rfl rfl ⟨rfl, by rw [elt]; exact C2.cl, fun q hq => by rw [List.getElem?_set_ne (by omega), List.getElem?_set_ne (by omega)]⟩
  · skip
    refine R_aload_n dX8_notes_9 rfl ?_
    refine R_get dX8_notes_10 f_X8_41 mo rfl ?_
    refine R_bipush (nI 51) dX8_notes_13 rfl ?_
    refine R_aload_n dX8_notes_15 rfl ?_
    refine R_get dX8_notes_16 f_X8_41 mo rfl ?_
    refine R_iconst (nI 0) dX8_notes_19 rfl ?_
    refine R_sipush (nI 1479) dX8_notes_20 rfl ?_
    refine R_cS5v (N := m_X8_bring) dX8_notes_23 l_X8_157 i_X8_bring (n_bring_s m9 (by omega) (by omega) (by omega) (by decide)) rfl rfl (fun h23 q_23 => ?_)
    subst q_23
    have mo : (List.set h 382 (x_ia 1530 (va_cpy (M 9) (M 9) 51 0 1479)))[372]? = some (x_mob (z_X Z).1 (z_f Z) (z_N Z) (z_R Z) (z_D Z) (z_P Z) ((z_T Z).1) (z_s Z) (z_S Z).1 (z_B Z).1 t) := (List.getElem?_set_ne (by omega)).trans mo
    have m9 : (List.set h 382 (x_ia 1530 (va_cpy (M 9) (M 9) 51 0 1479)))[382]? = some (x_ia 1530 (va_cpy (M 9) (M 9) 51 0 1479)) := List.getElem?_set_self (List.getElem?_eq_some_iff.mp m9).1
    have m8 : (List.set h 382 (x_ia 1530 (va_cpy (M 9) (M 9) 51 0 1479)))[381]? = some (x_ia 51 (M 8)) := (List.getElem?_set_ne (by omega)).trans m8
    refine R_aload_n dX8_notes_26 rfl ?_
    refine R_dup dX8_notes_27 rfl ?_
    refine R_get dX8_notes_28 f_X8_164 mo rfl ?_
    refine R_iconst (nI 1) dX8_notes_31 rfl ?_
    refine R_isubN dX8_notes_32 (by omega) ?_
    refine R_put dX8_notes_33 f_X8_164 mo (Nat.le_of_ble_eq_true rfl) (fun _ => rfl) (fun _ => rfl) ?_
    simp only [List.set_cons_succ, List.set_cons_zero]
    rw [show (z_T Z).1 - 1 = 29 by omega]
    have mo : (List.set (List.set h 382 (x_ia 1530 (va_cpy (M 9) (M 9) 51 0 1479))) 372 (x_mob (z_X Z).1 (z_f Z) (z_N Z) (z_R Z) (z_D Z) (z_P Z) (29) (z_s Z) (z_S Z).1 (z_B Z).1 t))[372]? = some (x_mob (z_X Z).1 (z_f Z) (z_N Z) (z_R Z) (z_D Z) (z_P Z) (29) (z_s Z) (z_S Z).1 (z_B Z).1 t) := List.getElem?_set_self (List.getElem?_eq_some_iff.mp mo).1
    have m9 : (List.set (List.set h 382 (x_ia 1530 (va_cpy (M 9) (M 9) 51 0 1479))) 372 (x_mob (z_X Z).1 (z_f Z) (z_N Z) (z_R Z) (z_D Z) (z_P Z) (29) (z_s Z) (z_S Z).1 (z_B Z).1 t))[382]? = some (x_ia 1530 (va_cpy (M 9) (M 9) 51 0 1479)) := (List.getElem?_set_ne (by omega)).trans m9
    have m8 : (List.set (List.set h 382 (x_ia 1530 (va_cpy (M 9) (M 9) 51 0 1479))) 372 (x_mob (z_X Z).1 (z_f Z) (z_N Z) (z_R Z) (z_D Z) (z_P Z) (29) (z_s Z) (z_S Z).1 (z_B Z).1 t))[381]? = some (x_ia 51 (M 8)) := (List.getElem?_set_ne (by omega)).trans m8
    refine R_aload_n dX8_notes_36 rfl ?_
    refine R_get dX8_notes_37 f_X8_38 mo rfl ?_
    refine R_iconst (nI 0) dX8_notes_40 rfl ?_
    refine R_aload_n dX8_notes_41 rfl ?_
    refine R_get dX8_notes_42 f_X8_41 mo rfl ?_
    refine R_bipush (nI 51) dX8_notes_45 rfl ?_
    refine R_aload_n dX8_notes_47 rfl ?_
    refine R_get dX8_notes_48 f_X8_164 mo rfl ?_
    refine R_imulN dX8_notes_51 ?_
    refine R_bipush (nI 51) dX8_notes_52 rfl ?_
    refine R_cS5v (N := m_X8_bring) dX8_notes_54 l_X8_157 i_X8_bring (n_bring (na := 51) (nb := 1530) m8 m9 (by decide) (by omega) (by omega) (by omega) (by omega) (by decide) (by decide)) rfl rfl (fun h54 q_54 => ?_)
    subst q_54
    have mo := (List.getElem?_set_ne (l := (List.set (List.set h 382 (x_ia 1530 (va_cpy (M 9) (M 9) 51 0 1479))) 372 (x_mob (z_X Z).1 (z_f Z) (z_N Z) (z_R Z) (z_D Z) (z_P Z) (29) (z_s Z) (z_S Z).1 (z_B Z).1 t))) (i := 382) (j := 372) (a := x_ia 1530 (va_cpy (M 8) (va_cpy (M 9) (M 9) 51 0 1479) 0 (51 * 29) 51)) (by omega)).trans mo
    refine R_aload_n dX8_notes_57 rfl ?_
    refine R_dup dX8_notes_58 rfl ?_
    refine R_get dX8_notes_59 f_X8_164 mo rfl ?_
    refine R_iconst (nI 1) dX8_notes_62 rfl ?_
    refine R_iaddN dX8_notes_63 ?_
    refine R_put dX8_notes_64 f_X8_164 mo (Nat.le_of_ble_eq_true rfl) (fun _ => rfl) (fun _ => rfl) ?_
    simp only [List.set_cons_succ, List.set_cons_zero]
    have e30 : t_rem (z_Q Z) (z_T Z) = (30, (t_rem (z_Q Z) (z_T Z)).2) := Prod.ext (show min ((z_T Z).1 + 1) 30 = 30 by omega) rfl
    have C2 := C.many (30, (t_rem (z_Q Z) (z_T Z)).2) (t_rem_30 b2 b4 (by omega) hq wt)
    have eH : (List.set (List.set (List.set (List.set h 382 (x_ia 1530 (va_cpy (M 9) (M 9) 51 0 1479))) 372 (x_mob (z_X Z).1 (z_f Z) (z_N Z) (z_R Z) (z_D Z) (z_P Z) (29) (z_s Z) (z_S Z).1 (z_B Z).1 t)) 382 (x_ia 1530 (va_cpy (M 8) (va_cpy (M 9) (M 9) 51 0 1479) 0 (51 * 29) 51))) 372 (x_mob (z_X Z).1 (z_f Z) (z_N Z) (z_R Z) (z_D Z) (z_P Z) (29 + 1) (z_s Z) (z_S Z).1 (z_B Z).1 t)) = (List.set (List.set h 382 (x_ia 1530 (va_cpy (M 8) (va_cpy (M 9) (M 9) 51 0 1479) 0 (51 * 29) 51))) 372 (x_mob (z_X Z).1 (z_f Z) (z_N Z) (z_R Z) (z_D Z) (z_P Z) (30) (z_s Z) (z_S Z).1 (z_B Z).1 t)) := by
      rw [List.set_comm _ _ (show (372 : Nat) ≠ 382 by decide), List.set_set, List.set_set]
    exact R_vret dX8_notes_67 rfl rfl rfl ⟨rfl, by rw [e30, eH]; exact C2.cl, fun q hq => by rw [eH, List.getElem?_set_ne (by omega), List.getElem?_set_ne (by omega)]⟩
