/-! A NIGHT that changes -/
/-- only the cells from c on, n of them, are others -/
def x_fr (h h' : xH) (c n : Nat) : Prop := ∀ q, q < c ∨ c + n ≤ q → h'[q]? = h[q]?
theorem x_fr.rf (h : xH) (c n : Nat) : x_fr h h c n := fun _ _ => rfl
theorem x_fr.trans {h g k : xH} {c n : Nat} (a : x_fr h g c n) (b : x_fr g k c n) : x_fr h k c n := fun q hq => (b q hq).trans (a q hq)
theorem x_fr.set {h g : xH} {c n a : Nat} (f : x_fr h g c n) (e : xC) (h1 : c ≤ a) (h2 : a < c + n) : x_fr h (g.set a e) c n := fun q hq => by rw [List.getElem?_set_ne (by omega)]; exact f q hq
theorem x_fr.wide {h g : xH} {c n c' n' : Nat} (f : x_fr h g c n) (h1 : c' ≤ c) (h2 : c + n ≤ c' + n') : x_fr h g c' n' := fun q hq => f q (by omega)
abbrev q_setla (Q : xQ) (la : Nat → Nat → Int32) : xQ := (Q.1, Q.2.1, Q.2.2.1, Q.2.2.2.1, Q.2.2.2.2.1, Q.2.2.2.2.2.1, Q.2.2.2.2.2.2.1, la)
theorem x_Night.obj {h : xH} {c R P : Nat} {Q : xQ} (H : x_Night h c R P Q) (hr nt sy : Nat) (ou : Nat → Bool) : x_Night (h.set c (.inr (2, [.int (nI (hr)), .int (nI (nt)), .int (nI (sy)), .int (s_set 6 (ou)), .ref (c + 1), .ref (c + 2), .ref (c + 3), .ref (c + 4)]))) c R P (hr, nt, sy, Q.2.2.2.1, Q.2.2.2.2.1, ou, Q.2.2.2.2.2.2.1, Q.2.2.2.2.2.2.2) := by
  obtain ⟨h2, g0, ⟨f1, g1, e1⟩, g2, ⟨f3, g3, e3⟩, g4, g5⟩ := H
  have hl := (List.getElem?_eq_some_iff.mp g0).1
  refine ⟨h2, List.getElem?_set_self hl, ⟨f1, ?_, e1⟩, ?_, ⟨f3, ?_, e3⟩, ?_, fun k hk => ?_⟩
  all_goals rw [List.getElem?_set_ne (by omega)]
  · exact g1
  · exact g2
  · exact g3
  · exact g4
  · exact g5 k hk
theorem x_Night.ow {h : xH} {c R P : Nat} {Q : xQ} (H : x_Night h c R P Q) (ow : Nat → Int32) : x_Night (h.set (c + 2) (x_ia 6 ow)) c R P (Q.1, Q.2.1, Q.2.2.1, Q.2.2.2.1, Q.2.2.2.2.1, Q.2.2.2.2.2.1, ow, Q.2.2.2.2.2.2.2) := by
  obtain ⟨h2, g0, ⟨f1, g1, e1⟩, g2, ⟨f3, g3, e3⟩, g4, g5⟩ := H
  have hl := (List.getElem?_eq_some_iff.mp g2).1
  refine ⟨h2, ?_, ⟨f1, ?_, e1⟩, List.getElem?_set_self hl, ⟨f3, ?_, e3⟩, ?_, fun k hk => ?_⟩
  all_goals rw [List.getElem?_set_ne (by omega)]
  · exact g0
  · exact g1
  · exact g3
  · exact g4
  · exact g5 k hk
theorem x_Night.bu {h : xH} {c R R2 P : Nat} {Q : xQ} (H : x_Night h c R P Q) (f : Nat → Int32) (bu : Nat → Nat) (hf : ∀ r, r < R2 → f r = nI (bu r)) : x_Night (h.set (c + 1) (x_ia 6 f)) c R2 P (Q.1, Q.2.1, Q.2.2.1, bu, Q.2.2.2.2.1, Q.2.2.2.2.2.1, Q.2.2.2.2.2.2.1, Q.2.2.2.2.2.2.2) := by
  obtain ⟨h2, g0, ⟨f1, g1, e1⟩, g2, ⟨f3, g3, e3⟩, g4, g5⟩ := H
  have hl := (List.getElem?_eq_some_iff.mp g1).1
  refine ⟨h2, ?_, ⟨f, List.getElem?_set_self hl, hf⟩, ?_, ⟨f3, ?_, e3⟩, ?_, fun k hk => ?_⟩
  all_goals rw [List.getElem?_set_ne (by omega)]
  · exact g0
  · exact g2
  · exact g3
  · exact g4
  · exact g5 k hk
theorem x_Night.pl {h : xH} {c R P P2 : Nat} {Q : xQ} (H : x_Night h c R P Q) (f : Nat → Int32) (pl : Nat → Nat) (hf : ∀ r, r < P2 → f r = nI (pl r)) : x_Night (h.set (c + 3) (x_ia 6 f)) c R P2 (Q.1, Q.2.1, Q.2.2.1, Q.2.2.2.1, pl, Q.2.2.2.2.2.1, Q.2.2.2.2.2.2.1, Q.2.2.2.2.2.2.2) := by
  obtain ⟨h2, g0, ⟨f1, g1, e1⟩, g2, ⟨f3, g3, e3⟩, g4, g5⟩ := H
  have hl := (List.getElem?_eq_some_iff.mp g3).1
  refine ⟨h2, ?_, ⟨f1, ?_, e1⟩, ?_, ⟨f, List.getElem?_set_self hl, hf⟩, ?_, fun k hk => ?_⟩
  all_goals rw [List.getElem?_set_ne (by omega)]
  · exact g0
  · exact g1
  · exact g2
  · exact g4
  · exact g5 k hk
theorem x_Night.la {h : xH} {c R P : Nat} {Q : xQ} (H : x_Night h c R P Q) {k : Nat} (hk : k < 4) (g : Nat → Int32) : x_Night (h.set (c + 4 + 1 + k) (x_ia 6 g)) c R P (q_setla Q (fun i => if i = k then g else q_la Q i)) := by
  obtain ⟨h2, g0, ⟨f1, g1, e1⟩, g2, ⟨f3, g3, e3⟩, g4, g5⟩ := H
  have hl := (List.getElem?_eq_some_iff.mp (g5 k hk)).1
  refine ⟨h2, ?_, ⟨f1, ?_, e1⟩, ?_, ⟨f3, ?_, e3⟩, ?_, fun i hi => ?_⟩
  · rw [List.getElem?_set_ne (by omega)]; exact g0
  · rw [List.getElem?_set_ne (by omega)]; exact g1
  · rw [List.getElem?_set_ne (by omega)]; exact g2
  · rw [List.getElem?_set_ne (by omega)]; exact g3
  · rw [List.getElem?_set_ne (by omega)]; exact g4
  · by_cases e : i = k
    · subst e
      rw [List.getElem?_set_self hl]
      show _ = some (x_ia 6 (if i = i then g else q_la Q i))
      rw [if_pos rfl]
    · rw [List.getElem?_set_ne (by omega)]
      show _ = some (x_ia 6 (if i = k then g else q_la Q i))
      rw [if_neg e]
      exact g5 i hi
theorem x_Night.laeq {h : xH} {c R P : Nat} {Q : xQ} {la : Nat → Nat → Int32} (H : x_Night h c R P Q) (e : ∀ k, k < 4 → q_la Q k = la k) : x_Night h c R P (q_setla Q la) := by
  obtain ⟨h2, g0, g1, g2, g3, g4, g5⟩ := H
  exact ⟨h2, g0, g1, g2, g3, g4, fun k hk => by show _ = some (x_ia 6 (la k)); rw [← e k hk]; exact g5 k hk⟩
theorem x_Night.oweq {h : xH} {c R P : Nat} {Q : xQ} {ow : Nat → Int32} (H : x_Night h c R P Q) (e : q_ow Q = ow) : x_Night h c R P (Q.1, Q.2.1, Q.2.2.1, Q.2.2.2.1, Q.2.2.2.2.1, Q.2.2.2.2.2.1, ow, Q.2.2.2.2.2.2.2) := by rw [← e]; exact H
def s_said (N R : Nat) (F : xF) (Q : xQ) (p k r : Nat) : Int32 := if decide (r < R) && s_reach N F Q p (q_pl Q p) (q_hr Q) k (s_wd Q k) r then nI (s_name F p k) else q_la Q k r
def s_sayst (N R : Nat) (F : xF) (Q : xQ) (p k r i j : Nat) : Int32 := if i < k ∨ (i = k ∧ j < r) then s_said N R F Q p i j else q_la Q i j
/-- a saying -/
def s_speak (N R : Nat) (F : xF) (Q : xQ) (p : Nat) : xQ := (Q.1, Q.2.1, Q.2.2.1 + 1, Q.2.2.2.1, Q.2.2.2.2.1, Q.2.2.2.2.2.1, Q.2.2.2.2.2.2.1, s_said N R F Q p)
def s_day (Q : xQ) : xQ := (Q.1, Q.2.1, Q.2.2.1, Q.2.2.2.1, Q.2.2.2.2.1, (fun _ => false), Q.2.2.2.2.2.2.1, (fun _ _ => -1))
/-- an hour passes -/
def s_pass (N R : Nat) (Q : xQ) : xQ := if q_hr Q + 1 < N then (Q.1 + 1, Q.2.1, Q.2.2.1, Q.2.2.2.1, Q.2.2.2.2.1, Q.2.2.2.2.2.1, Q.2.2.2.2.2.2.1, Q.2.2.2.2.2.2.2) else (0, Q.2.1 + 1, Q.2.2.1, Q.2.2.2.1, Q.2.2.2.2.1, (fun _ => false), (fun j => if j < R then s_will Q j 0 else Q.2.2.2.2.2.2.1 j), (fun _ _ => -1))
def s_owst (Q : xQ) (r j : Nat) : Int32 := if j < r then s_will Q j 0 else q_ow Q j
theorem c_Night_putOut {h : xH} {c R P : Nat} {Q : xQ} (HN : x_Night h c R P Q) {r : Nat} (hr : r < 6) : x_Met m_X2_putOut [.ref c, .int (nI r)] h (x_vd (fun h' => x_Night h' c R P (Q.1, Q.2.1, Q.2.2.1, Q.2.2.2.1, Q.2.2.2.2.1, (fun i => Q.2.2.2.2.2.1 i || decide (i = r)), Q.2.2.2.2.2.2.1, Q.2.2.2.2.2.2.2) ∧ x_fr h h' c 9)) := by
  obtain ⟨h2n, n0, ⟨f1, n1, n1e⟩, n2, ⟨f3, n3, n3e⟩, n4, n5⟩ := id HN
  refine x_Met.of (lo := [some (.ref c), some (.int (nI r))]) (by decide) rfl rfl rfl ?_
  refine R_aload_n dX2_putOut_0 rfl ?_
  refine R_dup dX2_putOut_1 rfl ?_
  refine R_get dX2_putOut_2 f_X2_21 n0 rfl ?_
  refine R_iconst (nI 1) dX2_putOut_5 rfl ?_
  refine R_iload_n dX2_putOut_6 rfl ?_
  refine R_ishl dX2_putOut_7 ?_
  refine R_ior dX2_putOut_8 ?_
  rw [s_add (Nat.le_refl 6) _ hr]
  refine R_put dX2_putOut_9 f_X2_21 n0 (Nat.le_of_ble_eq_true rfl) (fun _ => rfl) (fun _ => rfl) ?_
  exact R_vret dX2_putOut_12 rfl rfl rfl ⟨rfl, HN.obj _ _ _ _, (x_fr.rf h c 9).set _ (by omega) (by omega)⟩
theorem c_Night_lightAgain {h : xH} {c R P : Nat} {Q : xQ} (HN : x_Night h c R P Q) {r : Nat} (hr : r < 6) : x_Met m_X2_lightAgain [.ref c, .int (nI r)] h (x_vd (fun h' => x_Night h' c R P (Q.1, Q.2.1, Q.2.2.1, Q.2.2.2.1, Q.2.2.2.2.1, (fun i => Q.2.2.2.2.2.1 i && decide (¬ i = r)), Q.2.2.2.2.2.2.1, Q.2.2.2.2.2.2.2) ∧ x_fr h h' c 9)) := by
  obtain ⟨h2n, n0, ⟨f1, n1, n1e⟩, n2, ⟨f3, n3, n3e⟩, n4, n5⟩ := id HN
  refine x_Met.of (lo := [some (.ref c), some (.int (nI r))]) (by decide) rfl rfl rfl ?_
  refine R_aload_n dX2_lightAgain_0 rfl ?_
  refine R_dup dX2_lightAgain_1 rfl ?_
  refine R_get dX2_lightAgain_2 f_X2_21 n0 rfl ?_
  refine R_iconst (nI 1) dX2_lightAgain_5 rfl ?_
  refine R_iload_n dX2_lightAgain_6 rfl ?_
  refine R_ishl dX2_lightAgain_7 ?_
  refine R_iconst (-1) dX2_lightAgain_8 rfl ?_
  refine R_ixor dX2_lightAgain_9 ?_
  refine R_iand dX2_lightAgain_10 ?_
  rw [s_clear (Nat.le_refl 6) _ hr]
  refine R_put dX2_lightAgain_11 f_X2_21 n0 (Nat.le_of_ble_eq_true rfl) (fun _ => rfl) (fun _ => rfl) ?_
  exact R_vret dX2_lightAgain_14 rfl rfl rfl ⟨rfl, HN.obj _ _ _ _, (x_fr.rf h c 9).set _ (by omega) (by omega)⟩
theorem c_Night_clearNight_loop {h : xH} {c R P : Nat} {Q : xQ} : ∀ (n k : Nat), k ≤ 4 → 5 ≤ k + n → ∀ g : xH, x_Night g c R P (Q.1, Q.2.1, Q.2.2.1, Q.2.2.2.1, Q.2.2.2.2.1, (fun _ => false), Q.2.2.2.2.2.2.1, (fun i => if i < k then (fun _ => -1) else q_la Q i)) → x_fr h g c 9 → x_Rn m_X2_clearNight 7 [some (.ref c), some (.int (nI k))] [] g (0, 0) (x_vd (fun h' => x_Night h' c R P (s_day Q) ∧ x_fr h h' c 9)) := by
  intro n
  induction n with
  | zero => intro k h1 h3; omega
  | succ n ih =>
    intro k h1 h3 g HG FR
    obtain ⟨h2n, n0, ⟨f1, n1, n1e⟩, n2, ⟨f3, n3, n3e⟩, n4, n5⟩ := id HG
    refine R_iload_n dX2_clearNight_7 rfl ?_
    refine R_iconst (nI 4) dX2_clearNight_8 rfl ?_
    refine R_geN 28 dX2_clearNight_9 rfl (by omega) (by omega) (fun c_9 => ?_) (fun c_9 => ?_)
    · have e : k = 4 := by omega
      subst e
      exact R_vret dX2_clearNight_28 rfl rfl rfl ⟨rfl, HG.laeq (fun i hi => if_pos (by omega)), FR⟩
    · refine R_aload_n dX2_clearNight_12 rfl ?_
      refine R_get dX2_clearNight_13 f_X2_36 n0 rfl ?_
      refine R_iload_n dX2_clearNight_16 rfl ?_
      refine R_aald dX2_clearNight_17 n4 (by omega) (fun _ => rfl) rfl rfl (by omega) (by decide) (if_pos (by omega)) ?_
      refine R_iconst (-1) dX2_clearNight_18 rfl ?_
      refine R_cS2v (N := m_J7_fill_53178) dX2_clearNight_19 l_X2_51 i_J7_fill_53178 (c_fill (n5 k (by omega)) (by omega) (by omega) (-1)) rfl rfl (fun h19 q_19 => ?_)
      subst q_19
      have HG2 := HG.la (k := k) (by omega) (fun _ => -1)
      rw [show (fun i => if i = k then (fun _ => -1) else q_la (Q.1, Q.2.1, Q.2.2.1, Q.2.2.2.1, Q.2.2.2.2.1, (fun _ => false), Q.2.2.2.2.2.2.1, (fun i => if i < k then (fun _ => -1) else q_la Q i)) i) = (fun i => if i < k + 1 then (fun _ => -1) else q_la Q i) from funext (fun i => by
        show (if i = k then (fun _ => -1) else if i < k then (fun _ => -1) else q_la Q i) = if i < k + 1 then (fun _ => -1) else q_la Q i
        by_cases e : i = k
        · subst e; simp
        · have e1 : (i < k + 1) = (i < k) := by simp; omega
          simp [e, e1])] at HG2
      refine R_iincN dX2_clearNight_22 rfl (Nat.le_of_ble_eq_true rfl) rfl ?_
      refine R_goto 7 dX2_clearNight_25 rfl ?_
      exact ih (k + 1) (by omega) (by omega) _ HG2 (FR.set _ (by omega) (by omega))
theorem c_Night_clearNight {h : xH} {c R P : Nat} {Q : xQ} (HN : x_Night h c R P Q) : x_Met m_X2_clearNight [.ref c] h (x_vd (fun h' => x_Night h' c R P (s_day Q) ∧ x_fr h h' c 9)) := by
  obtain ⟨h2n, n0, ⟨f1, n1, n1e⟩, n2, ⟨f3, n3, n3e⟩, n4, n5⟩ := id HN
  refine x_Met.of (lo := [some (.ref c), none]) (by decide) rfl rfl rfl ?_
  refine R_aload_n dX2_clearNight_0 rfl ?_
  refine R_iconst (nI 0) dX2_clearNight_1 rfl ?_
  rw [s_none 6]
  refine R_put dX2_clearNight_2 f_X2_21 n0 (Nat.le_of_ble_eq_true rfl) (fun _ => rfl) (fun _ => rfl) ?_
  simp only [List.set_cons_succ, List.set_cons_zero]
  have HG := HN.obj (q_hr Q) (q_nt Q) (q_sy Q) (fun _ => false)
  refine R_iconst (nI 0) dX2_clearNight_5 rfl ?_
  refine R_istore_n dX2_clearNight_6 (Nat.le_of_ble_eq_true rfl) rfl ?_
  exact c_Night_clearNight_loop (Q := Q) 5 0 (by omega) (by omega) _ (HG.laeq (fun i hi => (if_neg (by omega)).symm)) ((x_fr.rf h c 9).set _ (by omega) (by omega))
