/-! THE PLANNER's steps -/
/-- what is wanted and not his as it is: t the rooms asked -/
def s_miss (F : xF) (Q : xQ) (p : Nat) (t : Nat → Bool) (r : Nat) : Bool := t r && decide (¬ s_will Q r 0 = nI (s_name F p 0))
theorem c_Planner_missingOf_loop {a : Nat} {h : xH} {b c N R D P : Nat} {F : xF} {Q : xQ} (H : x_House h b N R D P F) (hB : x_HB N R D P F) (HN : x_Night h c R P Q) (hQ : x_QB N R P Q) {p : Nat} {t : Nat → Bool} (hp : p < P) : ∀ (n r : Nat), r ≤ R → R + 1 ≤ r + n → x_Rn m_X3_missingOf 6 [some (.ref a), some (.ref b), some (.ref c), some (.int (nI p)), some (.int (s_set R t)), some (.int (s_set r (s_miss F Q p t))), some (.int (nI r))] [] h (0, 0) (x_pr (s_set R (s_miss F Q p t)) h) := by
  obtain ⟨h2, g0, g1, g2, g3, g4, g5, g6, g7, g8, g9, g10, g11⟩ := id H
  obtain ⟨⟨b1, b2, b3, b4⟩, b5, b6, b7⟩ := id hB
  obtain ⟨h2n, n0, ⟨f1, n1, n1e⟩, n2, ⟨f3, n3, n3e⟩, n4, n5⟩ := id HN
  intro n
  induction n with
  | zero => intro r h1 h3; omega
  | succ n ih =>
    intro r h1 h3
    refine R_iload dX3_missingOf_6 rfl ?_
    refine R_aload_n dX3_missingOf_8 rfl ?_
    refine R_get dX3_missingOf_9 f_X3_53 g0 rfl ?_
    refine R_geN 56 dX3_missingOf_12 rfl (by omega) (by omega) (fun c_12 => ?_) (fun c_12 => ?_)
    · have e : r = R := by omega
      subst e
      refine R_iload dX3_missingOf_56 rfl ?_
      exact R_iret dX3_missingOf_58 rfl rfl rfl x_pr.mk
    · have hr : r < R := by omega
      refine R_iload dX3_missingOf_15 rfl ?_
      refine R_iload dX3_missingOf_17 rfl ?_
      refine R_ishr dX3_missingOf_19 ?_
      refine R_iconst (nI 1) dX3_missingOf_20 rfl ?_
      refine R_iand dX3_missingOf_21 ?_
      rw [s_bit (by omega) t (by omega)]
      refine R_ifeqB 50 dX3_missingOf_22 rfl (fun c_22 => ?_) (fun c_22 => ?_)
      · have c_22 : t r = false := by simpa [hr] using c_22
        rw [s_set_f (f := s_miss F Q p t) (n := r) (by unfold s_miss; rw [c_22]; rfl)]
        refine R_iincN dX3_missingOf_50 rfl (Nat.le_of_ble_eq_true rfl) rfl ?_
        refine R_goto 6 dX3_missingOf_53 rfl ?_
        exact ih (r + 1) (by omega) (by omega)
      · have c_22 : t r = true := by simpa [hr] using c_22
        refine R_aload_n dX3_missingOf_25 rfl ?_
        refine R_iload dX3_missingOf_26 rfl ?_
        refine R_iconst (nI 0) dX3_missingOf_28 rfl ?_
        refine R_cV2p (N := m_X2_will) dX3_missingOf_29 l_X3_76 i_X2_will n0 (c_Night_will HN (r := r) (k := 0) (by omega) (by omega)) rfl rfl ?_
        refine R_aload_n dX3_missingOf_32 rfl ?_
        refine R_iload_n dX3_missingOf_33 rfl ?_
        refine R_iconst (nI 0) dX3_missingOf_34 rfl ?_
        refine R_cV2p (N := m_X1_nameOf) dX3_missingOf_35 l_X3_80 i_X1_nameOf g0 (c_House_nameOf H hB hp (k := 0) (by omega)) rfl rfl ?_
        refine R_icmpeq 50 dX3_missingOf_38 rfl (fun c_38 => ?_) (fun c_38 => ?_)
        · rw [s_set_f (f := s_miss F Q p t) (n := r) (by unfold s_miss; rw [c_22]; simp [c_38])]
          refine R_iincN dX3_missingOf_50 rfl (Nat.le_of_ble_eq_true rfl) rfl ?_
          refine R_goto 6 dX3_missingOf_53 rfl ?_
          exact ih (r + 1) (by omega) (by omega)
        · refine R_iload dX3_missingOf_41 rfl ?_
          refine R_iconst (nI 1) dX3_missingOf_43 rfl ?_
          refine R_iload dX3_missingOf_44 rfl ?_
          refine R_ishl dX3_missingOf_46 ?_
          refine R_ior dX3_missingOf_47 ?_
          rw [s_set_t (f := s_miss F Q p t) (n := r) (by unfold s_miss; rw [c_22]; simp [c_38])]
          refine R_istore dX3_missingOf_48 (Nat.le_of_ble_eq_true rfl) rfl ?_
          refine R_iincN dX3_missingOf_50 rfl (Nat.le_of_ble_eq_true rfl) rfl ?_
          refine R_goto 6 dX3_missingOf_53 rfl ?_
          exact ih (r + 1) (by omega) (by omega)
theorem c_Planner_missingOf {a : Nat} {h : xH} {b c N R D P : Nat} {F : xF} {Q : xQ} (H : x_House h b N R D P F) (hB : x_HB N R D P F) (HN : x_Night h c R P Q) (hQ : x_QB N R P Q) {p : Nat} {t : Nat → Bool} (hp : p < P) : x_Met m_X3_missingOf [.ref a, .ref b, .ref c, .int (nI p), .int (s_set R t)] h (x_pr (s_set R (s_miss F Q p t)) h) := by
  refine x_Met.of (lo := [some (.ref a), some (.ref b), some (.ref c), some (.int (nI p)), some (.int (s_set R t)), none, none]) (by decide) rfl rfl rfl ?_
  refine R_iconst (nI 0) dX3_missingOf_0 rfl ?_
  refine R_istore dX3_missingOf_1 (Nat.le_of_ble_eq_true rfl) rfl ?_
  refine R_iconst (nI 0) dX3_missingOf_3 rfl ?_
  refine R_istore dX3_missingOf_4 (Nat.le_of_ble_eq_true rfl) rfl ?_
  exact c_Planner_missingOf_loop H hB HN hQ hp (R + 1) 0 (by omega) (by omega)
theorem c_Planner_morning_c {h : xH} {a b N R D P w : Nat} {F : xF} {fw lt : Int32} {B : xA} (hR : R ≤ 6) (hw : w ≤ 6) (hd : b + 22 ≤ a) {r : Nat} (hr : r < R) (kk : ∀ (g : xH) (A : xA), x_House g b N R D P F → x_Plan g a fw lt A B → (∀ i j, i < R → j ≤ w → (i < r ∨ (i = r ∧ j < (w + 1))) → A i j = lN 1) → x_fr h g a 15 → x_Rn m_X3_beginAtMorning 35 [some (.ref a), some (.ref b), some (.int (nI w)), some (.int (nI r)), some (.int (nI (w + 1)))] [] g (0, 0) (x_vd (fun h' => ∃ A, x_Plan h' a fw lt A B ∧ (∀ r c, r < R → c ≤ w → A r c = lN 1) ∧ x_fr h h' a 15))) : ∀ (n c : Nat), c ≤ w + 1 → w + 2 ≤ c + n → ∀ (A : xA) {g : xH}, x_House g b N R D P F → x_Plan g a fw lt A B → (∀ i j, i < R → j ≤ w → (i < r ∨ (i = r ∧ j < c)) → A i j = lN 1) → x_fr h g a 15 → x_Rn m_X3_beginAtMorning 13 [some (.ref a), some (.ref b), some (.int (nI w)), some (.int (nI r)), some (.int (nI c))] [] g (0, 0) (x_vd (fun h' => ∃ A, x_Plan h' a fw lt A B ∧ (∀ r c, r < R → c ≤ w → A r c = lN 1) ∧ x_fr h h' a 15)) := by
  intro n
  induction n with
  | zero => intro c h1 h3; omega
  | succ n ih =>
    intro c h1 h3 A g H HP hA FR
    obtain ⟨h2, g0, g1, g2, g3, g4, g5, g6, g7, g8, g9, g10, g11⟩ := id H
    obtain ⟨hp2, p0, p1, p2, p3, p4⟩ := id HP
    refine R_iload dX3_beginAtMorning_13 rfl ?_
    refine R_iload_n dX3_beginAtMorning_15 rfl ?_
    refine R_gtN 35 dX3_beginAtMorning_16 rfl (by omega) (by omega) (fun c_16 => ?_) (fun c_16 => ?_)
    · have ec : c = w + 1 := by omega
      subst ec
      exact kk _ A H HP (fun i j hi hj hc => hA i j hi hj (by omega)) FR
    · refine R_aload_n dX3_beginAtMorning_19 rfl ?_
      refine R_get dX3_beginAtMorning_20 f_X3_20 p0 rfl ?_
      refine R_iload_n dX3_beginAtMorning_23 rfl ?_
      refine R_aald dX3_beginAtMorning_24 p1 (by omega) (fun _ => rfl) rfl rfl (by omega) (by decide) (if_pos (by omega)) ?_
      refine R_iload dX3_beginAtMorning_25 rfl ?_
      refine R_lconst (lN 1) dX3_beginAtMorning_27 rfl ?_
      refine R_last dX3_beginAtMorning_28 (p2 _ (by omega)) (by omega) rfl (by omega) (by decide) ?_
      have FR := FR.set (a := a + 1 + 1 + r) (x_la 7 (vp_updL (A r) c (lN 1))) (by omega) (by omega)
      have HP := HP.a (r := r) (by omega) (vp_updL (A r) c (lN 1))
      have H := H.kept (h' := List.set g (a + 1 + 1 + r) (x_la 7 (vp_updL (A r) c (lN 1)))) (fun q q1 q2 => List.getElem?_set_ne (by omega))
      refine R_iincN dX3_beginAtMorning_29 rfl (Nat.le_of_ble_eq_true rfl) rfl ?_
      refine R_goto 13 dX3_beginAtMorning_32 rfl ?_
      have hA2 : ∀ i j, i < R → j ≤ w → (i < r ∨ (i = r ∧ j < c + 1)) → s_aset A r (vp_updL (A r) c (lN 1)) i j = lN 1 := fun i j hi hj hc => by
        unfold s_aset vp_updL
        by_cases e : i = r
        · subst e
          rw [if_pos rfl]
          by_cases e2 : j = c
          · rw [if_pos e2]
          · rw [if_neg e2]; exact hA i j hi hj (by omega)
        · rw [if_neg e]; exact hA i j hi hj (by omega)
      exact ih (c + 1) (by omega) (by omega) _ H HP hA2 FR
theorem c_Planner_morning_r {h : xH} {a b N R D P w : Nat} {F : xF} {fw lt : Int32} {B : xA} (hR : R ≤ 6) (hw : w ≤ 6) (hd : b + 22 ≤ a) : ∀ (n r : Nat), r ≤ R → R + 1 ≤ r + n → ∀ (A : xA) (vc : Option Value) {g : xH}, x_House g b N R D P F → x_Plan g a fw lt A B → (∀ i j, i < R → j ≤ w → (i < r ∨ (i = r ∧ j < 0)) → A i j = lN 1) → x_fr h g a 15 → x_Rn m_X3_beginAtMorning 2 [some (.ref a), some (.ref b), some (.int (nI w)), some (.int (nI r)), vc] [] g (0, 0) (x_vd (fun h' => ∃ A, x_Plan h' a fw lt A B ∧ (∀ r c, r < R → c ≤ w → A r c = lN 1) ∧ x_fr h h' a 15)) := by
  intro n
  induction n with
  | zero => intro r h1 h3; omega
  | succ n ih =>
    intro r h1 h3 A vc g H HP hA FR
    obtain ⟨h2, g0, g1, g2, g3, g4, g5, g6, g7, g8, g9, g10, g11⟩ := id H
    refine R_iload_n dX3_beginAtMorning_2 rfl ?_
    refine R_aload_n dX3_beginAtMorning_3 rfl ?_
    refine R_get dX3_beginAtMorning_4 f_X3_53 g0 rfl ?_
    refine R_geN 41 dX3_beginAtMorning_7 rfl (by omega) (by omega) (fun c_7 => ?_) (fun c_7 => ?_)
    · have e : r = R := by omega
      subst e
      exact R_vret dX3_beginAtMorning_41 rfl rfl rfl ⟨rfl, A, HP, fun i j hi hj => hA i j hi hj (by omega), FR⟩
    · refine R_iconst (nI 0) dX3_beginAtMorning_10 rfl ?_
      refine R_istore dX3_beginAtMorning_11 (Nat.le_of_ble_eq_true rfl) rfl ?_
      refine c_Planner_morning_c hR hw hd (by omega) (fun g A H HP hA FR => ?_) (w + 2) 0 (by omega) (by omega) A H HP (fun i j hi hj hc => hA i j hi hj (by omega)) FR
      refine R_iincN dX3_beginAtMorning_35 rfl (Nat.le_of_ble_eq_true rfl) rfl ?_
      refine R_goto 2 dX3_beginAtMorning_38 rfl ?_
      exact ih (r + 1) (by omega) (by omega) A (some (.int (nI (w + 1)))) H HP (fun i j hi hj hc => hA i j hi hj (by omega)) FR
theorem c_Planner_morning {h : xH} {a b N R D P w : Nat} {F : xF} {fw lt : Int32} {B : xA} (hR : R ≤ 6) (hw : w ≤ 6) (hd : b + 22 ≤ a) {A : xA} (H : x_House h b N R D P F) (HP : x_Plan h a fw lt A B) : x_Met m_X3_beginAtMorning [.ref a, .ref b, .int (nI w)] h (x_vd (fun h' => ∃ A, x_Plan h' a fw lt A B ∧ (∀ r c, r < R → c ≤ w → A r c = lN 1) ∧ x_fr h h' a 15)) := by
  refine x_Met.of (lo := [some (.ref a), some (.ref b), some (.int (nI w)), none, none]) (by decide) rfl rfl rfl ?_
  refine R_iconst (nI 0) dX3_beginAtMorning_0 rfl ?_
  refine R_istore_n dX3_beginAtMorning_1 (Nat.le_of_ble_eq_true rfl) rfl ?_
  exact c_Planner_morning_r hR hw hd (R + 1) 0 (by omega) (by omega) A none H HP (fun i j hi hj hc => by omega) (x_fr.rf h a 15)
