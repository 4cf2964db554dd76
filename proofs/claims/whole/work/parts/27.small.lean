theorem c_Night_copyFrom_loop {h : xH} {c d R P : Nat} {Q : xQ} {la0 : Nat → Nat → Int32} (hdis : c + 9 ≤ d ∨ d + 9 ≤ c) : ∀ (n k : Nat), k ≤ 4 → 5 ≤ k + n → ∀ g : xH, x_Night g c R P (q_setla Q (fun i => if i < k then q_la Q i else la0 i)) → x_Night g d R P Q → x_fr h g c 9 → x_Rn m_X2_copyFrom 79 [some (.ref c), some (.ref d), some (.int (nI k))] [] g (0, 0) (x_vd (fun h' => x_Night h' c R P Q ∧ x_fr h h' c 9)) := by
  intro n
  induction n with
  | zero => intro k h1 h3; omega
  | succ n ih =>
    intro k h1 h3 g HG HO FR
    obtain ⟨h2n, n0, ⟨f1, n1, n1e⟩, n2, ⟨f3, n3, n3e⟩, n4, n5⟩ := id HG
    obtain ⟨h2m, m0, ⟨e1, m1, m1e⟩, m2, ⟨e3, m3, m3e⟩, m4, m5⟩ := id HO
    refine R_iload_n dX2_copyFrom_79 rfl ?_
    refine R_iconst (nI 4) dX2_copyFrom_80 rfl ?_
    refine R_geN 109 dX2_copyFrom_81 rfl (by omega) (by omega) (fun c_81 => ?_) (fun c_81 => ?_)
    · have e : k = 4 := by omega
      subst e
      exact R_vret dX2_copyFrom_109 rfl rfl rfl ⟨rfl, HG.laeq (fun i hi => if_pos (by omega)), FR⟩
    · refine R_aload_n dX2_copyFrom_84 rfl ?_
      refine R_get dX2_copyFrom_85 f_X2_36 m0 rfl ?_
      refine R_iload_n dX2_copyFrom_88 rfl ?_
      refine R_aald dX2_copyFrom_89 m4 (by omega) (fun _ => rfl) rfl rfl (by omega) (by decide) (if_pos (by omega)) ?_
      refine R_iconst (nI 0) dX2_copyFrom_90 rfl ?_
      refine R_aload_n dX2_copyFrom_91 rfl ?_
      refine R_get dX2_copyFrom_92 f_X2_36 n0 rfl ?_
      refine R_iload_n dX2_copyFrom_95 rfl ?_
      refine R_aald dX2_copyFrom_96 n4 (by omega) (fun _ => rfl) rfl rfl (by omega) (by decide) (if_pos (by omega)) ?_
      refine R_iconst (nI 0) dX2_copyFrom_97 rfl ?_
      refine R_bipush (nI 6) dX2_copyFrom_98 rfl ?_
      refine R_acpI dX2_copyFrom_100 l_X2_42 xi_acn xi_acs xi_System (m5 _ (by omega)) (n5 _ (by omega)) (by omega) (by omega) rfl rfl rfl (by omega) (by omega) (by decide) (by decide) rfl rfl rfl ?_
      refine R_alk (by omega) (x_alk.I (g := q_la Q k) (fun j hj => sb_cpy0 hj)) ?_
      have HG := HG.la (k := k) (by omega) (q_la Q k)
      have HG := HG.laeq (la := fun i => if i < k + 1 then q_la Q i else la0 i) (fun i hi => by
        show (if i = k then q_la Q k else if i < k then q_la Q i else la0 i) = if i < k + 1 then q_la Q i else la0 i
        by_cases e : i = k
        · subst e; simp
        · have e1 : (i < k + 1) = (i < k) := by simp; omega
          simp [e, e1])
      have HO := HO.set (a := c + 4 + 1 + k) (x_ia 6 (q_la Q k)) (by omega)
      have FR := FR.set (a := c + 4 + 1 + k) (x_ia 6 (q_la Q k)) (by omega) (by omega)
      refine R_iincN dX2_copyFrom_103 rfl (Nat.le_of_ble_eq_true rfl) rfl ?_
      refine R_goto 79 dX2_copyFrom_106 rfl ?_
      exact ih (k + 1) (by omega) (by omega) _ HG HO FR
theorem c_Night_copyFrom {h : xH} {c d R P R0 P0 : Nat} {Q Q0 : xQ} (HG : x_Night h c R0 P0 Q0) (HO : x_Night h d R P Q) (hR : R ≤ 6) (hP : P ≤ 6) (hdis : c + 9 ≤ d ∨ d + 9 ≤ c) : x_Met m_X2_copyFrom [.ref c, .ref d] h (x_vd (fun h' => x_Night h' c R P Q ∧ x_fr h h' c 9)) := by
  obtain ⟨h2n, n0, ⟨f1, n1, n1e⟩, n2, ⟨f3, n3, n3e⟩, n4, n5⟩ := id HG
  obtain ⟨h2m, m0, ⟨e1, m1, m1e⟩, m2, ⟨e3, m3, m3e⟩, m4, m5⟩ := id HO
  have FR := x_fr.rf h c 9
  refine x_Met.of (lo := [some (.ref c), some (.ref d), none]) (by decide) rfl rfl rfl ?_
  refine R_aload_n dX2_copyFrom_0 rfl ?_
  refine R_aload_n dX2_copyFrom_1 rfl ?_
  refine R_get dX2_copyFrom_2 f_X2_9 m0 rfl ?_
  refine R_put dX2_copyFrom_5 f_X2_9 n0 (Nat.le_of_ble_eq_true rfl) (fun _ => rfl) (fun _ => rfl) ?_
  simp only [List.set_cons_succ, List.set_cons_zero]
  have HG := HG.obj (q_hr Q) (q_nt Q0) (q_sy Q0) (q_ou Q0)
  have HO := HO.set (a := c) (.inr (2, [.int (nI (q_hr Q)), .int (nI (q_nt Q0)), .int (nI (q_sy Q0)), .int (s_set 6 (q_ou Q0)), .ref (c + 1), .ref (c + 2), .ref (c + 3), .ref (c + 4)])) (by omega)
  have FR := FR.set (a := c) (.inr (2, [.int (nI (q_hr Q)), .int (nI (q_nt Q0)), .int (nI (q_sy Q0)), .int (s_set 6 (q_ou Q0)), .ref (c + 1), .ref (c + 2), .ref (c + 3), .ref (c + 4)])) (by omega) (by omega)
  obtain ⟨h2n, n0, ⟨f1, n1, n1e⟩, n2, ⟨f3, n3, n3e⟩, n4, n5⟩ := id HG
  obtain ⟨h2m, m0, ⟨e1, m1, m1e⟩, m2, ⟨e3, m3, m3e⟩, m4, m5⟩ := id HO
  refine R_aload_n dX2_copyFrom_8 rfl ?_
  refine R_aload_n dX2_copyFrom_9 rfl ?_
  refine R_get dX2_copyFrom_10 f_X2_15 m0 rfl ?_
  refine R_put dX2_copyFrom_13 f_X2_15 n0 (Nat.le_of_ble_eq_true rfl) (fun _ => rfl) (fun _ => rfl) ?_
  simp only [List.set_cons_succ, List.set_cons_zero]
  have HG := HG.obj (q_hr Q) (q_nt Q) (q_sy Q0) (q_ou Q0)
  have HO := HO.set (a := c) (.inr (2, [.int (nI (q_hr Q)), .int (nI (q_nt Q)), .int (nI (q_sy Q0)), .int (s_set 6 (q_ou Q0)), .ref (c + 1), .ref (c + 2), .ref (c + 3), .ref (c + 4)])) (by omega)
  have FR := FR.set (a := c) (.inr (2, [.int (nI (q_hr Q)), .int (nI (q_nt Q)), .int (nI (q_sy Q0)), .int (s_set 6 (q_ou Q0)), .ref (c + 1), .ref (c + 2), .ref (c + 3), .ref (c + 4)])) (by omega) (by omega)
  obtain ⟨h2n, n0, ⟨f1, n1, n1e⟩, n2, ⟨f3, n3, n3e⟩, n4, n5⟩ := id HG
  obtain ⟨h2m, m0, ⟨e1, m1, m1e⟩, m2, ⟨e3, m3, m3e⟩, m4, m5⟩ := id HO
  refine R_aload_n dX2_copyFrom_16 rfl ?_
  refine R_aload_n dX2_copyFrom_17 rfl ?_
  refine R_get dX2_copyFrom_18 f_X2_18 m0 rfl ?_
  refine R_put dX2_copyFrom_21 f_X2_18 n0 (Nat.le_of_ble_eq_true rfl) (fun _ => rfl) (fun _ => rfl) ?_
  simp only [List.set_cons_succ, List.set_cons_zero]
  have HG := HG.obj (q_hr Q) (q_nt Q) (q_sy Q) (q_ou Q0)
  have HO := HO.set (a := c) (.inr (2, [.int (nI (q_hr Q)), .int (nI (q_nt Q)), .int (nI (q_sy Q)), .int (s_set 6 (q_ou Q0)), .ref (c + 1), .ref (c + 2), .ref (c + 3), .ref (c + 4)])) (by omega)
  have FR := FR.set (a := c) (.inr (2, [.int (nI (q_hr Q)), .int (nI (q_nt Q)), .int (nI (q_sy Q)), .int (s_set 6 (q_ou Q0)), .ref (c + 1), .ref (c + 2), .ref (c + 3), .ref (c + 4)])) (by omega) (by omega)
  obtain ⟨h2n, n0, ⟨f1, n1, n1e⟩, n2, ⟨f3, n3, n3e⟩, n4, n5⟩ := id HG
  obtain ⟨h2m, m0, ⟨e1, m1, m1e⟩, m2, ⟨e3, m3, m3e⟩, m4, m5⟩ := id HO
  refine R_aload_n dX2_copyFrom_24 rfl ?_
  refine R_aload_n dX2_copyFrom_25 rfl ?_
  refine R_get dX2_copyFrom_26 f_X2_21 m0 rfl ?_
  refine R_put dX2_copyFrom_29 f_X2_21 n0 (Nat.le_of_ble_eq_true rfl) (fun _ => rfl) (fun _ => rfl) ?_
  simp only [List.set_cons_succ, List.set_cons_zero]
  have HG := HG.obj (q_hr Q) (q_nt Q) (q_sy Q) (q_ou Q)
  have HO := HO.set (a := c) (.inr (2, [.int (nI (q_hr Q)), .int (nI (q_nt Q)), .int (nI (q_sy Q)), .int (s_set 6 (q_ou Q)), .ref (c + 1), .ref (c + 2), .ref (c + 3), .ref (c + 4)])) (by omega)
  have FR := FR.set (a := c) (.inr (2, [.int (nI (q_hr Q)), .int (nI (q_nt Q)), .int (nI (q_sy Q)), .int (s_set 6 (q_ou Q)), .ref (c + 1), .ref (c + 2), .ref (c + 3), .ref (c + 4)])) (by omega) (by omega)
  obtain ⟨h2n, n0, ⟨f1, n1, n1e⟩, n2, ⟨f3, n3, n3e⟩, n4, n5⟩ := id HG
  obtain ⟨h2m, m0, ⟨e1, m1, m1e⟩, m2, ⟨e3, m3, m3e⟩, m4, m5⟩ := id HO
  refine R_aload_n dX2_copyFrom_32 rfl ?_
  refine R_get dX2_copyFrom_33 f_X2_24 m0 rfl ?_
  refine R_iconst (nI 0) dX2_copyFrom_36 rfl ?_
  refine R_aload_n dX2_copyFrom_37 rfl ?_
  refine R_get dX2_copyFrom_38 f_X2_24 n0 rfl ?_
  refine R_iconst (nI 0) dX2_copyFrom_41 rfl ?_
  refine R_bipush (nI 6) dX2_copyFrom_42 rfl ?_
  refine R_acpI dX2_copyFrom_44 l_X2_42 xi_acn xi_acs xi_System m1 n1 (by omega) (by omega) rfl rfl rfl (by omega) (by omega) (by decide) (by decide) rfl rfl rfl ?_
  have HG := HG.bu (R2 := R) (va_cpy e1 f1 0 0 6) (q_bu Q) (fun r hr => by rw [sb_cpy0 (by omega)]; exact m1e r hr)
  have HO := HO.set (a := c + 1) (x_ia 6 (va_cpy e1 f1 0 0 6)) (by omega)
  have FR := FR.set (a := c + 1) (x_ia 6 (va_cpy e1 f1 0 0 6)) (by omega) (by omega)
  obtain ⟨h2n, n0, ⟨f1, n1, n1e⟩, n2, ⟨f3, n3, n3e⟩, n4, n5⟩ := id HG
  obtain ⟨h2m, m0, ⟨e1, m1, m1e⟩, m2, ⟨e3, m3, m3e⟩, m4, m5⟩ := id HO
  refine R_aload_n dX2_copyFrom_47 rfl ?_
  refine R_get dX2_copyFrom_48 f_X2_28 m0 rfl ?_
  refine R_iconst (nI 0) dX2_copyFrom_51 rfl ?_
  refine R_aload_n dX2_copyFrom_52 rfl ?_
  refine R_get dX2_copyFrom_53 f_X2_28 n0 rfl ?_
  refine R_iconst (nI 0) dX2_copyFrom_56 rfl ?_
  refine R_bipush (nI 6) dX2_copyFrom_57 rfl ?_
  refine R_acpI dX2_copyFrom_59 l_X2_42 xi_acn xi_acs xi_System m2 n2 (by omega) (by omega) rfl rfl rfl (by omega) (by omega) (by decide) (by decide) rfl rfl rfl ?_
  refine R_alk (by omega) (x_alk.I (g := q_ow Q) (fun j hj => sb_cpy0 hj)) ?_
  have HG := HG.ow (q_ow Q)
  have HO := HO.set (a := c + 2) (x_ia 6 (q_ow Q)) (by omega)
  have FR := FR.set (a := c + 2) (x_ia 6 (q_ow Q)) (by omega) (by omega)
  obtain ⟨h2n, n0, ⟨f1, n1, n1e⟩, n2, ⟨f3, n3, n3e⟩, n4, n5⟩ := id HG
  obtain ⟨h2m, m0, ⟨e1, m1, m1e⟩, m2, ⟨e3, m3, m3e⟩, m4, m5⟩ := id HO
  refine R_aload_n dX2_copyFrom_62 rfl ?_
  refine R_get dX2_copyFrom_63 f_X2_31 m0 rfl ?_
  refine R_iconst (nI 0) dX2_copyFrom_66 rfl ?_
  refine R_aload_n dX2_copyFrom_67 rfl ?_
  refine R_get dX2_copyFrom_68 f_X2_31 n0 rfl ?_
  refine R_iconst (nI 0) dX2_copyFrom_71 rfl ?_
  refine R_bipush (nI 6) dX2_copyFrom_72 rfl ?_
  refine R_acpI dX2_copyFrom_74 l_X2_42 xi_acn xi_acs xi_System m3 n3 (by omega) (by omega) rfl rfl rfl (by omega) (by omega) (by decide) (by decide) rfl rfl rfl ?_
  have HG := HG.pl (P2 := P) (va_cpy e3 f3 0 0 6) (q_pl Q) (fun r hr => by rw [sb_cpy0 (by omega)]; exact m3e r hr)
  have HO := HO.set (a := c + 3) (x_ia 6 (va_cpy e3 f3 0 0 6)) (by omega)
  have FR := FR.set (a := c + 3) (x_ia 6 (va_cpy e3 f3 0 0 6)) (by omega) (by omega)
  obtain ⟨h2n, n0, ⟨f1, n1, n1e⟩, n2, ⟨f3, n3, n3e⟩, n4, n5⟩ := id HG
  obtain ⟨h2m, m0, ⟨e1, m1, m1e⟩, m2, ⟨e3, m3, m3e⟩, m4, m5⟩ := id HO
  refine R_iconst (nI 0) dX2_copyFrom_77 rfl ?_
  refine R_istore_n dX2_copyFrom_78 (Nat.le_of_ble_eq_true rfl) rfl ?_
  exact c_Night_copyFrom_loop (la0 := q_la Q0) hdis 5 0 (by omega) (by omega) _ (HG.laeq (fun i hi => (if_neg (by omega)).symm)) HO FR
def s_begin (F : xF) : xQ := (0, 0, 0, F 0, F 6, (fun _ => false), (fun _ => -1), (fun _ _ => -1))
theorem c_Night_begin {h : xH} {b c N R D P R0 P0 : Nat} {F : xF} {Q0 : xQ} (H : x_House h b N R D P F) (HG : x_Night h c R0 P0 Q0) (hR : R ≤ 6) (hP : P ≤ 6) (hdis : b + 22 ≤ c ∨ c + 9 ≤ b) : x_Met m_X2_begin [.ref c, .ref b] h (x_vd (fun h' => x_Night h' c R P (s_begin F) ∧ x_fr h h' c 9)) := by
  obtain ⟨h2, g0, g1, g2, g3, g4, g5, g6, g7, g8, g9, g10, g11⟩ := id H
  obtain ⟨h2n, n0, ⟨f1, n1, n1e⟩, n2, ⟨f3, n3, n3e⟩, n4, n5⟩ := id HG
  have FR := x_fr.rf h c 9
  refine x_Met.of (lo := [some (.ref c), some (.ref b)]) (by decide) rfl rfl rfl ?_
  refine R_aload_n dX2_begin_0 rfl ?_
  refine R_iconst (nI 0) dX2_begin_1 rfl ?_
  refine R_put dX2_begin_2 f_X2_9 n0 (Nat.le_of_ble_eq_true rfl) (fun _ => rfl) (fun _ => rfl) ?_
  simp only [List.set_cons_succ, List.set_cons_zero]
  have HG := HG.obj (0) (q_nt Q0) (q_sy Q0) (q_ou Q0)
  have H := H.set (a := c) (.inr (2, [.int (nI (0)), .int (nI (q_nt Q0)), .int (nI (q_sy Q0)), .int (s_set 6 (q_ou Q0)), .ref (c + 1), .ref (c + 2), .ref (c + 3), .ref (c + 4)])) (by omega)
  have FR := FR.set (a := c) (.inr (2, [.int (nI (0)), .int (nI (q_nt Q0)), .int (nI (q_sy Q0)), .int (s_set 6 (q_ou Q0)), .ref (c + 1), .ref (c + 2), .ref (c + 3), .ref (c + 4)])) (by omega) (by omega)
  obtain ⟨h2n, n0, ⟨f1, n1, n1e⟩, n2, ⟨f3, n3, n3e⟩, n4, n5⟩ := id HG
  obtain ⟨h2, g0, g1, g2, g3, g4, g5, g6, g7, g8, g9, g10, g11⟩ := id H
  refine R_aload_n dX2_begin_5 rfl ?_
  refine R_iconst (nI 0) dX2_begin_6 rfl ?_
  refine R_put dX2_begin_7 f_X2_15 n0 (Nat.le_of_ble_eq_true rfl) (fun _ => rfl) (fun _ => rfl) ?_
  simp only [List.set_cons_succ, List.set_cons_zero]
  have HG := HG.obj (0) (0) (q_sy Q0) (q_ou Q0)
  have H := H.set (a := c) (.inr (2, [.int (nI (0)), .int (nI (0)), .int (nI (q_sy Q0)), .int (s_set 6 (q_ou Q0)), .ref (c + 1), .ref (c + 2), .ref (c + 3), .ref (c + 4)])) (by omega)
  have FR := FR.set (a := c) (.inr (2, [.int (nI (0)), .int (nI (0)), .int (nI (q_sy Q0)), .int (s_set 6 (q_ou Q0)), .ref (c + 1), .ref (c + 2), .ref (c + 3), .ref (c + 4)])) (by omega) (by omega)
  obtain ⟨h2n, n0, ⟨f1, n1, n1e⟩, n2, ⟨f3, n3, n3e⟩, n4, n5⟩ := id HG
  obtain ⟨h2, g0, g1, g2, g3, g4, g5, g6, g7, g8, g9, g10, g11⟩ := id H
  refine R_aload_n dX2_begin_10 rfl ?_
  refine R_iconst (nI 0) dX2_begin_11 rfl ?_
  refine R_put dX2_begin_12 f_X2_18 n0 (Nat.le_of_ble_eq_true rfl) (fun _ => rfl) (fun _ => rfl) ?_
  simp only [List.set_cons_succ, List.set_cons_zero]
  have HG := HG.obj (0) (0) (0) (q_ou Q0)
  have H := H.set (a := c) (.inr (2, [.int (nI (0)), .int (nI (0)), .int (nI (0)), .int (s_set 6 (q_ou Q0)), .ref (c + 1), .ref (c + 2), .ref (c + 3), .ref (c + 4)])) (by omega)
  have FR := FR.set (a := c) (.inr (2, [.int (nI (0)), .int (nI (0)), .int (nI (0)), .int (s_set 6 (q_ou Q0)), .ref (c + 1), .ref (c + 2), .ref (c + 3), .ref (c + 4)])) (by omega) (by omega)
  obtain ⟨h2n, n0, ⟨f1, n1, n1e⟩, n2, ⟨f3, n3, n3e⟩, n4, n5⟩ := id HG
  obtain ⟨h2, g0, g1, g2, g3, g4, g5, g6, g7, g8, g9, g10, g11⟩ := id H
  refine R_aload_n dX2_begin_15 rfl ?_
  refine R_get dX2_begin_16 f_X2_39 g0 rfl ?_
  refine R_iconst (nI 0) dX2_begin_19 rfl ?_
  refine R_aload_n dX2_begin_20 rfl ?_
  refine R_get dX2_begin_21 f_X2_24 n0 rfl ?_
  refine R_iconst (nI 0) dX2_begin_24 rfl ?_
  refine R_bipush (nI 6) dX2_begin_25 rfl ?_
  refine R_acpI dX2_begin_27 l_X2_42 xi_acn xi_acs xi_System g1 n1 (by omega) (by omega) rfl rfl rfl (by omega) (by omega) (by decide) (by decide) rfl rfl rfl ?_
  have HG := HG.bu (R2 := R) (va_cpy (fun j => nI (F 0 j)) f1 0 0 6) (F 0) (fun r hr => by rw [sb_cpy0 (by omega)])
  have H := H.set (a := c + 1) (x_ia 6 (va_cpy (fun j => nI (F 0 j)) f1 0 0 6)) (by omega)
  have FR := FR.set (a := c + 1) (x_ia 6 (va_cpy (fun j => nI (F 0 j)) f1 0 0 6)) (by omega) (by omega)
  obtain ⟨h2n, n0, ⟨f1, n1, n1e⟩, n2, ⟨f3, n3, n3e⟩, n4, n5⟩ := id HG
  obtain ⟨h2, g0, g1, g2, g3, g4, g5, g6, g7, g8, g9, g10, g11⟩ := id H
  refine R_aload_n dX2_begin_30 rfl ?_
  refine R_get dX2_begin_31 f_X2_48 g0 rfl ?_
  refine R_iconst (nI 0) dX2_begin_34 rfl ?_
  refine R_aload_n dX2_begin_35 rfl ?_
  refine R_get dX2_begin_36 f_X2_31 n0 rfl ?_
  refine R_iconst (nI 0) dX2_begin_39 rfl ?_
  refine R_bipush (nI 6) dX2_begin_40 rfl ?_
  refine R_acpI dX2_begin_42 l_X2_42 xi_acn xi_acs xi_System g7 n3 (by omega) (by omega) rfl rfl rfl (by omega) (by omega) (by decide) (by decide) rfl rfl rfl ?_
  have HG := HG.pl (P2 := P) (va_cpy (fun j => nI (F 6 j)) f3 0 0 6) (F 6) (fun r hr => by rw [sb_cpy0 (by omega)])
  have H := H.set (a := c + 3) (x_ia 6 (va_cpy (fun j => nI (F 6 j)) f3 0 0 6)) (by omega)
  have FR := FR.set (a := c + 3) (x_ia 6 (va_cpy (fun j => nI (F 6 j)) f3 0 0 6)) (by omega) (by omega)
  obtain ⟨h2n, n0, ⟨f1, n1, n1e⟩, n2, ⟨f3, n3, n3e⟩, n4, n5⟩ := id HG
  obtain ⟨h2, g0, g1, g2, g3, g4, g5, g6, g7, g8, g9, g10, g11⟩ := id H
  refine R_aload_n dX2_begin_45 rfl ?_
  refine R_get dX2_begin_46 f_X2_28 n0 rfl ?_
  refine R_iconst (-1) dX2_begin_49 rfl ?_
  refine R_cS2v (N := m_J7_fill_53178) dX2_begin_50 l_X2_51 i_J7_fill_53178 (c_fill n2 (by omega) (by omega) (-1)) rfl rfl (fun h50 q_50 => ?_)
  subst q_50
  have HG := HG.ow (fun _ => -1)
  have FR := FR.set (a := c + 2) (x_ia 6 (fun _ => -1)) (by omega) (by omega)
  obtain ⟨h2n, n0, ⟨f1, n1, n1e⟩, n2, ⟨f3, n3, n3e⟩, n4, n5⟩ := id HG
  refine R_aload_n dX2_begin_53 rfl ?_
  refine R_cV0v (N := m_X2_clearNight) dX2_begin_54 l_X2_57 i_X2_clearNight n0 (c_Night_clearNight HG) rfl rfl (fun h54 q_54 => ?_)
  obtain ⟨HG, FR2⟩ := q_54
  have FR := FR.trans FR2
  exact R_vret dX2_begin_57 rfl rfl rfl ⟨rfl, HG, FR⟩
def x_Book (h : xH) (b n : Nat) (rm : Nat → Nat) (hp : Nat → Int32) : Prop := 2 ≤ b ∧ n ≤ 20 ∧ h[b]? = some (.inr (0, [.int (nI n), .ref (b + 1), .ref (b + 2)])) ∧ (∃ f, h[b + 1]? = some (x_ia 20 f) ∧ ∀ i, i < n → f i = nI (rm i)) ∧ ∃ f, h[b + 2]? = some (x_ia 20 f) ∧ ∀ i, i < n → f i = hp i
def x_Seen (h : xH) (b n : Nat) (rm : Nat → Nat) (hd : Nat → Bool) : Prop := 2 ≤ b ∧ n ≤ 6 ∧ h[b]? = some (.inr (4, [.int (nI n), .ref (b + 1), .ref (b + 2)])) ∧ (∃ f, h[b + 1]? = some (x_ia 6 f) ∧ ∀ i, i < n → f i = nI (rm i)) ∧ ∃ f, h[b + 2]? = some (.inl (2, 6, .inl f)) ∧ ∀ i, i < n → f i = x_b (hd i)
theorem x_Book.kept {h h' : xH} {b n : Nat} {rm : Nat → Nat} {hp : Nat → Int32} (H : x_Book h b n rm hp) (hq : ∀ q, b ≤ q → q < b + 3 → h'[q]? = h[q]?) : x_Book h' b n rm hp := by
  obtain ⟨h2, hn, g0, ⟨f1, g1, e1⟩, f2, g2, e2⟩ := H
  exact ⟨h2, hn, (hq _ (by omega) (by omega)).trans g0, ⟨f1, (hq _ (by omega) (by omega)).trans g1, e1⟩, f2, (hq _ (by omega) (by omega)).trans g2, e2⟩
theorem x_Seen.kept {h h' : xH} {b n : Nat} {rm : Nat → Nat} {hd : Nat → Bool} (H : x_Seen h b n rm hd) (hq : ∀ q, b ≤ q → q < b + 3 → h'[q]? = h[q]?) : x_Seen h' b n rm hd := by
  obtain ⟨h2, hn, g0, ⟨f1, g1, e1⟩, f2, g2, e2⟩ := H
  exact ⟨h2, hn, (hq _ (by omega) (by omega)).trans g0, ⟨f1, (hq _ (by omega) (by omega)).trans g1, e1⟩, f2, (hq _ (by omega) (by omega)).trans g2, e2⟩
/-- one more behind n -/
def s_snoc {α : Type} (n : Nat) (f : Nat → α) (x : α) : Nat → α := fun i => if i = n then x else f i
theorem c_Book_full {h : xH} {b : Nat} {rm : Nat → Nat} {hp : Nat → Int32} (H : x_Book h b 20 rm hp) (r p : Int32) : x_Met m_X0_append [.ref b, .int r, .int p] h (x_pr (nI 0) h) := by
  obtain ⟨h2, hn, g0, ⟨f1, g1, g1e⟩, f2, g2, g2e⟩ := id H
  refine x_Met.of (lo := [some (.ref b), some (.int r), some (.int p)]) (by decide) rfl rfl rfl ?_
  refine R_aload_n dX0_append_0 rfl ?_
  refine R_get dX0_append_1 f_X0_9 g0 rfl ?_
  refine R_bipush (nI 20) dX0_append_4 rfl ?_
  refine R_ltN 11 dX0_append_6 rfl (by omega) (by omega) (fun c_6 => ?_) (fun c_6 => ?_)
  · omega
  · refine R_iconst (nI 0) dX0_append_9 rfl ?_
    exact R_zret dX0_append_10 rfl (Or.inl rfl) rfl rfl x_pr.mk
theorem c_Book_append {h : xH} {b n : Nat} {rm : Nat → Nat} {hp : Nat → Int32} (H : x_Book h b n rm hp) (hl : n < 20) (r : Nat) (p : Int32) : x_Met m_X0_append [.ref b, .int (nI r), .int p] h (x_ir (fun r' h' => r' = nI 1 ∧ x_Book h' b (n + 1) (s_snoc n rm r) (s_snoc n hp p) ∧ x_fr h h' b 3)) := by
  obtain ⟨h2, hn, g0, ⟨f1, g1, g1e⟩, f2, g2, g2e⟩ := id H
  refine x_Met.of (lo := [some (.ref b), some (.int (nI r)), some (.int p)]) (by decide) rfl rfl rfl ?_
  refine R_aload_n dX0_append_0 rfl ?_
  refine R_get dX0_append_1 f_X0_9 g0 rfl ?_
  refine R_bipush (nI 20) dX0_append_4 rfl ?_
  refine R_ltN 11 dX0_append_6 rfl (by omega) (by omega) (fun c_6 => ?_) (fun c_6 => ?_)
  · refine R_aload_n dX0_append_11 rfl ?_
    refine R_get dX0_append_12 f_X0_15 g0 rfl ?_
    refine R_aload_n dX0_append_15 rfl ?_
    refine R_get dX0_append_16 f_X0_9 g0 rfl ?_
    refine R_iload_n dX0_append_19 rfl ?_
    refine R_iast dX0_append_20 g1 (by omega) rfl (by omega) (by decide) ?_
    generalize hh1 : h.set (b + 1) (x_ia 20 (upd f1 n (nI r))) = h1
    have g0 := (show h1[b]? = h[b]? by rw [← hh1, List.getElem?_set_ne (by omega)]).trans g0
    have g2 := (show h1[b + 2]? = h[b + 2]? by rw [← hh1, List.getElem?_set_ne (by omega)]).trans g2
    have g1 : h1[b + 1]? = some (x_ia 20 (upd f1 n (nI r))) := by rw [← hh1]; exact List.getElem?_set_self (List.getElem?_eq_some_iff.mp g1).1
    have FR : x_fr h h1 b 3 := by rw [← hh1]; exact (x_fr.rf h b 3).set _ (by omega) (by omega)
    refine R_aload_n dX0_append_21 rfl ?_
    refine R_get dX0_append_22 f_X0_19 g0 rfl ?_
    refine R_aload_n dX0_append_25 rfl ?_
    refine R_get dX0_append_26 f_X0_9 g0 rfl ?_
    refine R_iload_n dX0_append_29 rfl ?_
    refine R_iast dX0_append_30 g2 (by omega) rfl (by omega) (by decide) ?_
    generalize hh2 : h1.set (b + 2) (x_ia 20 (upd f2 n p)) = h3
    have g0 := (show h3[b]? = h1[b]? by rw [← hh2, List.getElem?_set_ne (by omega)]).trans g0
    have g1 := (show h3[b + 1]? = h1[b + 1]? by rw [← hh2, List.getElem?_set_ne (by omega)]).trans g1
    have g2 : h3[b + 2]? = some (x_ia 20 (upd f2 n p)) := by rw [← hh2]; exact List.getElem?_set_self (List.getElem?_eq_some_iff.mp g2).1
    have FR : x_fr h h3 b 3 := by rw [← hh2]; exact FR.set _ (by omega) (by omega)
    refine R_aload_n dX0_append_31 rfl ?_
    refine R_dup dX0_append_32 rfl ?_
    refine R_get dX0_append_33 f_X0_9 g0 rfl ?_
    refine R_iconst (nI 1) dX0_append_36 rfl ?_
    refine R_iaddN dX0_append_37 ?_
    refine R_put dX0_append_38 f_X0_9 g0 (Nat.le_of_ble_eq_true rfl) (fun _ => rfl) (fun _ => rfl) ?_
    simp only [List.set_cons_succ, List.set_cons_zero]
    generalize hh3 : h3.set b (.inr (0, [.int (nI (n + 1)), .ref (b + 1), .ref (b + 2)])) = h4
    have g1 := (show h4[b + 1]? = h3[b + 1]? by rw [← hh3, List.getElem?_set_ne (by omega)]).trans g1
    have g2 := (show h4[b + 2]? = h3[b + 2]? by rw [← hh3, List.getElem?_set_ne (by omega)]).trans g2
    have g0 : h4[b]? = some (.inr (0, [.int (nI (n + 1)), .ref (b + 1), .ref (b + 2)])) := by rw [← hh3]; exact List.getElem?_set_self (List.getElem?_eq_some_iff.mp g0).1
    have FR : x_fr h h4 b 3 := by rw [← hh3]; exact FR.set _ (by omega) (by omega)
    refine R_iconst (nI 1) dX0_append_41 rfl ?_
    have a1 : ∀ i, i < n + 1 → upd f1 n (nI r) i = nI (s_snoc n rm r i) := fun i hi => by
      by_cases e : i = n
      · subst e; simp [upd, s_snoc]
      · simp [upd, s_snoc, e]; exact g1e i (by omega)
    have a2 : ∀ i, i < n + 1 → upd f2 n p i = s_snoc n hp p i := fun i hi => by
      by_cases e : i = n
      · subst e; simp [upd, s_snoc]
      · simp [upd, s_snoc, e]; exact g2e i (by omega)
    exact R_zret dX0_append_42 rfl (Or.inr rfl) rfl rfl ⟨nI 1, rfl, rfl, ⟨h2, by omega, g0, ⟨_, g1, a1⟩, _, g2, a2⟩, FR⟩
  · omega
def s_wrong (ow : Nat → Int32) (rm : Nat → Nat) (hp : Nat → Int32) : Nat → Nat → Int32
  | 0, _ => -1
  | n + 1, i => if ow (rm i) = hp i then s_wrong ow rm hp n (i + 1) else nI i
theorem c_Book_firstWrong_loop {h : xH} {b c n R P : Nat} {rm : Nat → Nat} {hp : Nat → Int32} {Q : xQ} (H : x_Book h b n rm hp) (HN : x_Night h c R P Q) (hrm : ∀ i, i < n → rm i < 6) : ∀ (k i : Nat), i + k = n → x_Rn m_X0_firstWrong 2 [some (.ref b), some (.ref c), some (.int (nI i))] [] h (0, 0) (x_pr (s_wrong (q_ow Q) rm hp k i) h) := by
  obtain ⟨h2, hn, g0, ⟨f1, g1, g1e⟩, f2, g2, g2e⟩ := id H
  obtain ⟨h2n, n0, ⟨f3n, n1, n1e⟩, n2, ⟨f4, n3, n3e⟩, n4, n5⟩ := id HN
  intro k
  induction k with
  | zero =>
    intro i h1
    refine R_iload_n dX0_firstWrong_2 rfl ?_
    refine R_aload_n dX0_firstWrong_3 rfl ?_
    refine R_get dX0_firstWrong_4 f_X0_9 g0 rfl ?_
    refine R_geN 38 dX0_firstWrong_7 rfl (by omega) (by omega) (fun c_7 => ?_) (fun c_7 => by omega)
    refine R_iconst (-1) dX0_firstWrong_38 rfl ?_
    exact R_iret dX0_firstWrong_39 rfl rfl rfl x_pr.mk
  | succ k ih =>
    intro i h1
    refine R_iload_n dX0_firstWrong_2 rfl ?_
    refine R_aload_n dX0_firstWrong_3 rfl ?_
    refine R_get dX0_firstWrong_4 f_X0_9 g0 rfl ?_
    refine R_geN 38 dX0_firstWrong_7 rfl (by omega) (by omega) (fun c_7 => ?_) (fun c_7 => ?_)
    · omega
    · have hr := hrm i (by omega)
      refine R_aload_n dX0_firstWrong_10 rfl ?_
      refine R_get dX0_firstWrong_11 f_X0_22 n0 rfl ?_
      refine R_aload_n dX0_firstWrong_14 rfl ?_
      refine R_get dX0_firstWrong_15 f_X0_15 g0 rfl ?_
      refine R_iload_n dX0_firstWrong_18 rfl ?_
      refine R_iald dX0_firstWrong_19 g1 rfl (by omega) (by decide) ?_
      rw [g1e i (by omega)]
      refine R_iald dX0_firstWrong_20 n2 rfl (by omega) (by decide) ?_
      refine R_aload_n dX0_firstWrong_21 rfl ?_
      refine R_get dX0_firstWrong_22 f_X0_19 g0 rfl ?_
      refine R_iload_n dX0_firstWrong_25 rfl ?_
      refine R_iald dX0_firstWrong_26 g2 rfl (by omega) (by decide) ?_
      rw [g2e i (by omega)]
      refine R_icmpeq 32 dX0_firstWrong_27 rfl (fun c_27 => ?_) (fun c_27 => ?_)
      · refine R_iincN dX0_firstWrong_32 rfl (Nat.le_of_ble_eq_true rfl) rfl ?_
        refine R_goto 2 dX0_firstWrong_35 rfl ?_
        have key := ih (i + 1) (by omega)
        rw [s_wrong, if_pos c_27]
        exact key
      · refine R_iload_n dX0_firstWrong_30 rfl ?_
        exact R_iret dX0_firstWrong_31 rfl rfl rfl (x_pr.eq (by rw [s_wrong, if_neg c_27]))
theorem c_Book_firstWrong {h : xH} {b c n R P : Nat} {rm : Nat → Nat} {hp : Nat → Int32} {Q : xQ} (H : x_Book h b n rm hp) (HN : x_Night h c R P Q) (hrm : ∀ i, i < n → rm i < 6) : x_Met m_X0_firstWrong [.ref b, .ref c] h (x_pr (s_wrong (q_ow Q) rm hp n 0) h) := by

  refine x_Met.of (lo := [some (.ref b), some (.ref c), none]) (by decide) rfl rfl rfl ?_
  refine R_iconst (nI 0) dX0_firstWrong_0 rfl ?_
  refine R_istore_n dX0_firstWrong_1 (Nat.le_of_ble_eq_true rfl) rfl ?_
  exact c_Book_firstWrong_loop H HN hrm n 0 (by omega)
