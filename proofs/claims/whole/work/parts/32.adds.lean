/-! WHAT IS READ INTO A HOUSE -/
def s_row (F : xF) (i : Nat) (g : Nat → Nat) : xF := fun k => if k = i then g else F k
theorem x_updN (f : Nat → Nat) (n v : Nat) : upd (fun j => nI (f j)) n (nI v) = fun j => nI (s_snoc n f v j) := by
  funext j
  by_cases e : j = n
  · simp [upd, s_snoc, e]
  · simp [upd, s_snoc, e]
theorem x_House.obj {h : xH} {b N R D P : Nat} {F : xF} (H : x_House h b N R D P F) (N' R' D' P' : Nat) : x_House (h.set b (.inr (1, [.int (nI N'), .int (nI R'), .int (nI D'), .int (nI P'), .ref (b + 1), .ref (b + 2), .ref (b + 3), .ref (b + 4), .ref (b + 5), .ref (b + 6), .ref (b + 7), .ref (b + 8), .ref (b + 15)]))) b N' R' D' P' F := by
  obtain ⟨h2, g0, g1, g2, g3, g4, g5, g6, g7, g8, g9, g10, g11⟩ := H
  refine ⟨h2, List.getElem?_set_self (List.getElem?_eq_some_iff.mp g0).1, ?_, ?_, ?_, ?_, ?_, ?_, ?_, ?_, fun a ha => ?_, ?_, fun a ha => ?_⟩
  all_goals rw [List.getElem?_set_ne (by omega)]
  · exact g1
  · exact g2
  · exact g3
  · exact g4
  · exact g5
  · exact g6
  · exact g7
  · exact g8
  · exact g9 a ha
  · exact g10
  · exact g11 a ha
theorem x_House.row0 {h : xH} {b N R D P : Nat} {F : xF} (H : x_House h b N R D P F) (g : Nat → Nat) : x_House (h.set (b + 1) (x_na 6 g)) b N R D P (s_row F 0 g) := by
  obtain ⟨h2, g0, g1, g2, g3, g4, g5, g6, g7, g8, g9, g10, g11⟩ := H
  refine ⟨h2, ?_, List.getElem?_set_self (List.getElem?_eq_some_iff.mp g1).1, ?_, ?_, ?_, ?_, ?_, ?_, ?_, fun a ha => ?_, ?_, fun a ha => ?_⟩
  all_goals rw [List.getElem?_set_ne (by omega)]
  · exact g0
  · exact g2
  · exact g3
  · exact g4
  · exact g5
  · exact g6
  · exact g7
  · exact g8
  · rw [show s_row F 0 g (10 + a) = F (10 + a) from if_neg (by omega)]; exact g9 a ha
  · exact g10
  · rw [show s_row F 0 g (20 + a) = F (20 + a) from if_neg (by omega)]; exact g11 a ha
theorem x_House.row1 {h : xH} {b N R D P : Nat} {F : xF} (H : x_House h b N R D P F) (g : Nat → Nat) : x_House (h.set (b + 2) (x_na 8 g)) b N R D P (s_row F 1 g) := by
  obtain ⟨h2, g0, g1, g2, g3, g4, g5, g6, g7, g8, g9, g10, g11⟩ := H
  refine ⟨h2, ?_, ?_, List.getElem?_set_self (List.getElem?_eq_some_iff.mp g2).1, ?_, ?_, ?_, ?_, ?_, ?_, fun a ha => ?_, ?_, fun a ha => ?_⟩
  all_goals rw [List.getElem?_set_ne (by omega)]
  · exact g0
  · exact g1
  · exact g3
  · exact g4
  · exact g5
  · exact g6
  · exact g7
  · exact g8
  · rw [show s_row F 1 g (10 + a) = F (10 + a) from if_neg (by omega)]; exact g9 a ha
  · exact g10
  · rw [show s_row F 1 g (20 + a) = F (20 + a) from if_neg (by omega)]; exact g11 a ha
theorem x_House.row2 {h : xH} {b N R D P : Nat} {F : xF} (H : x_House h b N R D P F) (g : Nat → Nat) : x_House (h.set (b + 3) (x_na 8 g)) b N R D P (s_row F 2 g) := by
  obtain ⟨h2, g0, g1, g2, g3, g4, g5, g6, g7, g8, g9, g10, g11⟩ := H
  refine ⟨h2, ?_, ?_, ?_, List.getElem?_set_self (List.getElem?_eq_some_iff.mp g3).1, ?_, ?_, ?_, ?_, ?_, fun a ha => ?_, ?_, fun a ha => ?_⟩
  all_goals rw [List.getElem?_set_ne (by omega)]
  · exact g0
  · exact g1
  · exact g2
  · exact g4
  · exact g5
  · exact g6
  · exact g7
  · exact g8
  · rw [show s_row F 2 g (10 + a) = F (10 + a) from if_neg (by omega)]; exact g9 a ha
  · exact g10
  · rw [show s_row F 2 g (20 + a) = F (20 + a) from if_neg (by omega)]; exact g11 a ha
theorem x_House.row3 {h : xH} {b N R D P : Nat} {F : xF} (H : x_House h b N R D P F) (g : Nat → Nat) : x_House (h.set (b + 4) (x_na 8 g)) b N R D P (s_row F 3 g) := by
  obtain ⟨h2, g0, g1, g2, g3, g4, g5, g6, g7, g8, g9, g10, g11⟩ := H
  refine ⟨h2, ?_, ?_, ?_, ?_, List.getElem?_set_self (List.getElem?_eq_some_iff.mp g4).1, ?_, ?_, ?_, ?_, fun a ha => ?_, ?_, fun a ha => ?_⟩
  all_goals rw [List.getElem?_set_ne (by omega)]
  · exact g0
  · exact g1
  · exact g2
  · exact g3
  · exact g5
  · exact g6
  · exact g7
  · exact g8
  · rw [show s_row F 3 g (10 + a) = F (10 + a) from if_neg (by omega)]; exact g9 a ha
  · exact g10
  · rw [show s_row F 3 g (20 + a) = F (20 + a) from if_neg (by omega)]; exact g11 a ha
theorem x_House.row4 {h : xH} {b N R D P : Nat} {F : xF} (H : x_House h b N R D P F) (g : Nat → Nat) : x_House (h.set (b + 5) (x_na 6 g)) b N R D P (s_row F 4 g) := by
  obtain ⟨h2, g0, g1, g2, g3, g4, g5, g6, g7, g8, g9, g10, g11⟩ := H
  refine ⟨h2, ?_, ?_, ?_, ?_, ?_, List.getElem?_set_self (List.getElem?_eq_some_iff.mp g5).1, ?_, ?_, ?_, fun a ha => ?_, ?_, fun a ha => ?_⟩
  all_goals rw [List.getElem?_set_ne (by omega)]
  · exact g0
  · exact g1
  · exact g2
  · exact g3
  · exact g4
  · exact g6
  · exact g7
  · exact g8
  · rw [show s_row F 4 g (10 + a) = F (10 + a) from if_neg (by omega)]; exact g9 a ha
  · exact g10
  · rw [show s_row F 4 g (20 + a) = F (20 + a) from if_neg (by omega)]; exact g11 a ha
theorem x_House.row5 {h : xH} {b N R D P : Nat} {F : xF} (H : x_House h b N R D P F) (g : Nat → Nat) : x_House (h.set (b + 6) (x_na 6 g)) b N R D P (s_row F 5 g) := by
  obtain ⟨h2, g0, g1, g2, g3, g4, g5, g6, g7, g8, g9, g10, g11⟩ := H
  refine ⟨h2, ?_, ?_, ?_, ?_, ?_, ?_, List.getElem?_set_self (List.getElem?_eq_some_iff.mp g6).1, ?_, ?_, fun a ha => ?_, ?_, fun a ha => ?_⟩
  all_goals rw [List.getElem?_set_ne (by omega)]
  · exact g0
  · exact g1
  · exact g2
  · exact g3
  · exact g4
  · exact g5
  · exact g7
  · exact g8
  · rw [show s_row F 5 g (10 + a) = F (10 + a) from if_neg (by omega)]; exact g9 a ha
  · exact g10
  · rw [show s_row F 5 g (20 + a) = F (20 + a) from if_neg (by omega)]; exact g11 a ha
theorem x_House.row6 {h : xH} {b N R D P : Nat} {F : xF} (H : x_House h b N R D P F) (g : Nat → Nat) : x_House (h.set (b + 7) (x_na 6 g)) b N R D P (s_row F 6 g) := by
  obtain ⟨h2, g0, g1, g2, g3, g4, g5, g6, g7, g8, g9, g10, g11⟩ := H
  refine ⟨h2, ?_, ?_, ?_, ?_, ?_, ?_, ?_, List.getElem?_set_self (List.getElem?_eq_some_iff.mp g7).1, ?_, fun a ha => ?_, ?_, fun a ha => ?_⟩
  all_goals rw [List.getElem?_set_ne (by omega)]
  · exact g0
  · exact g1
  · exact g2
  · exact g3
  · exact g4
  · exact g5
  · exact g6
  · exact g8
  · rw [show s_row F 6 g (10 + a) = F (10 + a) from if_neg (by omega)]; exact g9 a ha
  · exact g10
  · rw [show s_row F 6 g (20 + a) = F (20 + a) from if_neg (by omega)]; exact g11 a ha
theorem c_House_empty {h : xH} {b N R D P : Nat} {F : xF} (H : x_House h b N R D P F) : x_Met m_X1_empty [.ref b] h (x_vd (fun h' => x_House h' b 0 0 0 0 F ∧ x_fr h h' b 22)) := by
  obtain ⟨h2, g0, g1, g2, g3, g4, g5, g6, g7, g8, g9, g10, g11⟩ := id H
  have FR := x_fr.rf h b 22
  refine x_Met.of (lo := [some (.ref b)]) (by decide) rfl rfl rfl ?_
  refine R_aload_n dX1_empty_0 rfl ?_
  refine R_iconst (nI 0) dX1_empty_1 rfl ?_
  refine R_put dX1_empty_2 f_X1_9 g0 (Nat.le_of_ble_eq_true rfl) (fun _ => rfl) (fun _ => rfl) ?_
  simp only [List.set_cons_succ, List.set_cons_zero]
  have H := H.obj (0) (R) (D) (P)
  have FR := FR.set (a := b) (.inr (1, [.int (nI (0)), .int (nI (R)), .int (nI (D)), .int (nI (P)), .ref (b + 1), .ref (b + 2), .ref (b + 3), .ref (b + 4), .ref (b + 5), .ref (b + 6), .ref (b + 7), .ref (b + 8), .ref (b + 15)])) (by omega) (by omega)
  obtain ⟨h2, g0, g1, g2, g3, g4, g5, g6, g7, g8, g9, g10, g11⟩ := id H
  refine R_aload_n dX1_empty_5 rfl ?_
  refine R_iconst (nI 0) dX1_empty_6 rfl ?_
  refine R_put dX1_empty_7 f_X1_15 g0 (Nat.le_of_ble_eq_true rfl) (fun _ => rfl) (fun _ => rfl) ?_
  simp only [List.set_cons_succ, List.set_cons_zero]
  have H := H.obj (0) (0) (D) (P)
  have FR := FR.set (a := b) (.inr (1, [.int (nI (0)), .int (nI (0)), .int (nI (D)), .int (nI (P)), .ref (b + 1), .ref (b + 2), .ref (b + 3), .ref (b + 4), .ref (b + 5), .ref (b + 6), .ref (b + 7), .ref (b + 8), .ref (b + 15)])) (by omega) (by omega)
  obtain ⟨h2, g0, g1, g2, g3, g4, g5, g6, g7, g8, g9, g10, g11⟩ := id H
  refine R_aload_n dX1_empty_10 rfl ?_
  refine R_iconst (nI 0) dX1_empty_11 rfl ?_
  refine R_put dX1_empty_12 f_X1_18 g0 (Nat.le_of_ble_eq_true rfl) (fun _ => rfl) (fun _ => rfl) ?_
  simp only [List.set_cons_succ, List.set_cons_zero]
  have H := H.obj (0) (0) (0) (P)
  have FR := FR.set (a := b) (.inr (1, [.int (nI (0)), .int (nI (0)), .int (nI (0)), .int (nI (P)), .ref (b + 1), .ref (b + 2), .ref (b + 3), .ref (b + 4), .ref (b + 5), .ref (b + 6), .ref (b + 7), .ref (b + 8), .ref (b + 15)])) (by omega) (by omega)
  obtain ⟨h2, g0, g1, g2, g3, g4, g5, g6, g7, g8, g9, g10, g11⟩ := id H
  refine R_aload_n dX1_empty_15 rfl ?_
  refine R_iconst (nI 0) dX1_empty_16 rfl ?_
  refine R_put dX1_empty_17 f_X1_21 g0 (Nat.le_of_ble_eq_true rfl) (fun _ => rfl) (fun _ => rfl) ?_
  simp only [List.set_cons_succ, List.set_cons_zero]
  have H := H.obj (0) (0) (0) (0)
  have FR := FR.set (a := b) (.inr (1, [.int (nI (0)), .int (nI (0)), .int (nI (0)), .int (nI (0)), .ref (b + 1), .ref (b + 2), .ref (b + 3), .ref (b + 4), .ref (b + 5), .ref (b + 6), .ref (b + 7), .ref (b + 8), .ref (b + 15)])) (by omega) (by omega)
  obtain ⟨h2, g0, g1, g2, g3, g4, g5, g6, g7, g8, g9, g10, g11⟩ := id H
  exact R_vret dX1_empty_20 rfl rfl rfl ⟨rfl, H, FR⟩
theorem c_House_addRoom {h : xH} {b N R D P : Nat} {F : xF} (H : x_House h b N R D P F) (hR : R < 6) (v : Nat) : x_Met m_X1_addRoom [.ref b, .int (nI v)] h (x_vd (fun h' => x_House h' b N (R + 1) D P (s_row F 0 (s_snoc R (F 0) v)) ∧ x_fr h h' b 22)) := by
  obtain ⟨h2, g0, g1, g2, g3, g4, g5, g6, g7, g8, g9, g10, g11⟩ := id H
  have FR := x_fr.rf h b 22
  refine x_Met.of (lo := [some (.ref b), some (.int (nI v))]) (by decide) rfl rfl rfl ?_
  refine R_aload_n dX1_addRoom_0 rfl ?_
  refine R_get dX1_addRoom_1 f_X1_15 g0 rfl ?_
  refine R_bipush (nI 6) dX1_addRoom_4 rfl ?_
  refine R_geN 29 dX1_addRoom_6 rfl (by omega) (by omega) (fun c_6 => ?_) (fun c_6 => ?_)
  · omega
  · refine R_aload_n dX1_addRoom_9 rfl ?_
    refine R_get dX1_addRoom_10 f_X1_24 g0 rfl ?_
    refine R_aload_n dX1_addRoom_13 rfl ?_
    refine R_get dX1_addRoom_14 f_X1_15 g0 rfl ?_
    refine R_iload_n dX1_addRoom_17 rfl ?_
    refine R_iast dX1_addRoom_18 g1 (by omega) rfl (by omega) (by decide) ?_
    rw [x_updN]
    have H := H.row0 (s_snoc R (F 0) v)
    have FR := FR.set (a := b + 1) (x_na 6 (s_snoc R (F 0) v)) (by omega) (by omega)
    obtain ⟨h2, g0, g1, g2, g3, g4, g5, g6, g7, g8, g9, g10, g11⟩ := id H
    refine R_aload_n dX1_addRoom_19 rfl ?_
    refine R_dup dX1_addRoom_20 rfl ?_
    refine R_get dX1_addRoom_21 f_X1_15 g0 rfl ?_
    refine R_iconst (nI 1) dX1_addRoom_24 rfl ?_
    refine R_iaddN dX1_addRoom_25 ?_
    refine R_put dX1_addRoom_26 f_X1_15 g0 (Nat.le_of_ble_eq_true rfl) (fun _ => rfl) (fun _ => rfl) ?_
    simp only [List.set_cons_succ, List.set_cons_zero]
    have H := H.obj (N) (R + 1) (D) (P)
    have FR := FR.set (a := b) (.inr (1, [.int (nI (N)), .int (nI (R + 1)), .int (nI (D)), .int (nI (P)), .ref (b + 1), .ref (b + 2), .ref (b + 3), .ref (b + 4), .ref (b + 5), .ref (b + 6), .ref (b + 7), .ref (b + 8), .ref (b + 15)])) (by omega) (by omega)
    obtain ⟨h2, g0, g1, g2, g3, g4, g5, g6, g7, g8, g9, g10, g11⟩ := id H
    exact R_vret dX1_addRoom_29 rfl rfl rfl ⟨rfl, H, FR⟩
theorem c_House_addDoor {h : xH} {b N R D P : Nat} {F : xF} (H : x_House h b N R D P F) (hl : D < 8) (x y z : Nat) : x_Met m_X1_addDoor [.ref b, .int (nI x), .int (nI y), .int (nI z)] h (x_vd (fun h' => x_House h' b N R (D + 1) P (s_row (s_row (s_row F 1 (s_snoc D (F 1) x)) 2 (s_snoc D (F 2) y)) 3 (s_snoc D (F 3) z)) ∧ x_fr h h' b 22)) := by
  obtain ⟨h2, g0, g1, g2, g3, g4, g5, g6, g7, g8, g9, g10, g11⟩ := id H
  have FR := x_fr.rf h b 22
  refine x_Met.of (lo := [some (.ref b), some (.int (nI x)), some (.int (nI y)), some (.int (nI z))]) (by decide) rfl rfl rfl ?_
  refine R_aload_n dX1_addDoor_0 rfl ?_
  refine R_get dX1_addDoor_1 f_X1_18 g0 rfl ?_
  refine R_bipush (nI 8) dX1_addDoor_4 rfl ?_
  refine R_geN 49 dX1_addDoor_6 rfl (by omega) (by omega) (fun c_6 => ?_) (fun c_6 => ?_)
  · omega
  · refine R_aload_n dX1_addDoor_9 rfl ?_
    refine R_get dX1_addDoor_10 f_X1_28 g0 rfl ?_
    refine R_aload_n dX1_addDoor_13 rfl ?_
    refine R_get dX1_addDoor_14 f_X1_18 g0 rfl ?_
    refine R_iload_n dX1_addDoor_17 rfl ?_
    refine R_iast dX1_addDoor_18 g2 (by omega) rfl (by omega) (by decide) ?_
    rw [x_updN]
    have H := H.row1 (s_snoc D (F 1) x)
    have FR := FR.set (a := b + 2) (x_na 8 (s_snoc D (F 1) x)) (by omega) (by omega)
    obtain ⟨h2, g0, g1, g2, g3, g4, g5, g6, g7, g8, g9, g10, g11⟩ := id H
    refine R_aload_n dX1_addDoor_19 rfl ?_
    refine R_get dX1_addDoor_20 f_X1_31 g0 rfl ?_
    refine R_aload_n dX1_addDoor_23 rfl ?_
    refine R_get dX1_addDoor_24 f_X1_18 g0 rfl ?_
    refine R_iload_n dX1_addDoor_27 rfl ?_
    refine R_iast dX1_addDoor_28 g3 (by omega) rfl (by omega) (by decide) ?_
    rw [x_updN]
    have H := H.row2 (s_snoc D (F 2) y)
    have FR := FR.set (a := b + 3) (x_na 8 (s_snoc D (F 2) y)) (by omega) (by omega)
    obtain ⟨h2, g0, g1, g2, g3, g4, g5, g6, g7, g8, g9, g10, g11⟩ := id H
    refine R_aload_n dX1_addDoor_29 rfl ?_
    refine R_get dX1_addDoor_30 f_X1_34 g0 rfl ?_
    refine R_aload_n dX1_addDoor_33 rfl ?_
    refine R_get dX1_addDoor_34 f_X1_18 g0 rfl ?_
    refine R_iload_n dX1_addDoor_37 rfl ?_
    refine R_iast dX1_addDoor_38 g4 (by omega) rfl (by omega) (by decide) ?_
    rw [x_updN]
    have H := H.row3 (s_snoc D (F 3) z)
    have FR := FR.set (a := b + 4) (x_na 8 (s_snoc D (F 3) z)) (by omega) (by omega)
    obtain ⟨h2, g0, g1, g2, g3, g4, g5, g6, g7, g8, g9, g10, g11⟩ := id H
    refine R_aload_n dX1_addDoor_39 rfl ?_
    refine R_dup dX1_addDoor_40 rfl ?_
    refine R_get dX1_addDoor_41 f_X1_18 g0 rfl ?_
    refine R_iconst (nI 1) dX1_addDoor_44 rfl ?_
    refine R_iaddN dX1_addDoor_45 ?_
    refine R_put dX1_addDoor_46 f_X1_18 g0 (Nat.le_of_ble_eq_true rfl) (fun _ => rfl) (fun _ => rfl) ?_
    simp only [List.set_cons_succ, List.set_cons_zero]
    have H := H.obj (N) (R) (D + 1) (P)
    have FR := FR.set (a := b) (.inr (1, [.int (nI (N)), .int (nI (R)), .int (nI (D + 1)), .int (nI (P)), .ref (b + 1), .ref (b + 2), .ref (b + 3), .ref (b + 4), .ref (b + 5), .ref (b + 6), .ref (b + 7), .ref (b + 8), .ref (b + 15)])) (by omega) (by omega)
    obtain ⟨h2, g0, g1, g2, g3, g4, g5, g6, g7, g8, g9, g10, g11⟩ := id H
    exact R_vret dX1_addDoor_49 rfl rfl rfl ⟨rfl, H, FR⟩
theorem c_House_addHeir {h : xH} {b N R D P : Nat} {F : xF} (H : x_House h b N R D P F) (hl : P < 6) (x y z : Nat) : x_Met m_X1_addHeir [.ref b, .int (nI x), .int (nI y), .int (nI z)] h (x_vd (fun h' => x_House h' b N R D (P + 1) (s_row (s_row (s_row F 4 (s_snoc P (F 4) x)) 5 (s_snoc P (F 5) y)) 6 (s_snoc P (F 6) z)) ∧ x_fr h h' b 22)) := by
  obtain ⟨h2, g0, g1, g2, g3, g4, g5, g6, g7, g8, g9, g10, g11⟩ := id H
  have FR := x_fr.rf h b 22
  refine x_Met.of (lo := [some (.ref b), some (.int (nI x)), some (.int (nI y)), some (.int (nI z))]) (by decide) rfl rfl rfl ?_
  refine R_aload_n dX1_addHeir_0 rfl ?_
  refine R_get dX1_addHeir_1 f_X1_21 g0 rfl ?_
  refine R_bipush (nI 6) dX1_addHeir_4 rfl ?_
  refine R_geN 49 dX1_addHeir_6 rfl (by omega) (by omega) (fun c_6 => ?_) (fun c_6 => ?_)
  · omega
  · refine R_aload_n dX1_addHeir_9 rfl ?_
    refine R_get dX1_addHeir_10 f_X1_37 g0 rfl ?_
    refine R_aload_n dX1_addHeir_13 rfl ?_
    refine R_get dX1_addHeir_14 f_X1_21 g0 rfl ?_
    refine R_iload_n dX1_addHeir_17 rfl ?_
    refine R_iast dX1_addHeir_18 g5 (by omega) rfl (by omega) (by decide) ?_
    rw [x_updN]
    have H := H.row4 (s_snoc P (F 4) x)
    have FR := FR.set (a := b + 5) (x_na 6 (s_snoc P (F 4) x)) (by omega) (by omega)
    obtain ⟨h2, g0, g1, g2, g3, g4, g5, g6, g7, g8, g9, g10, g11⟩ := id H
    refine R_aload_n dX1_addHeir_19 rfl ?_
    refine R_get dX1_addHeir_20 f_X1_40 g0 rfl ?_
    refine R_aload_n dX1_addHeir_23 rfl ?_
    refine R_get dX1_addHeir_24 f_X1_21 g0 rfl ?_
    refine R_iload_n dX1_addHeir_27 rfl ?_
    refine R_iast dX1_addHeir_28 g6 (by omega) rfl (by omega) (by decide) ?_
    rw [x_updN]
    have H := H.row5 (s_snoc P (F 5) y)
    have FR := FR.set (a := b + 6) (x_na 6 (s_snoc P (F 5) y)) (by omega) (by omega)
    obtain ⟨h2, g0, g1, g2, g3, g4, g5, g6, g7, g8, g9, g10, g11⟩ := id H
    refine R_aload_n dX1_addHeir_29 rfl ?_
    refine R_get dX1_addHeir_30 f_X1_43 g0 rfl ?_
    refine R_aload_n dX1_addHeir_33 rfl ?_
    refine R_get dX1_addHeir_34 f_X1_21 g0 rfl ?_
    refine R_iload_n dX1_addHeir_37 rfl ?_
    refine R_iast dX1_addHeir_38 g7 (by omega) rfl (by omega) (by decide) ?_
    rw [x_updN]
    have H := H.row6 (s_snoc P (F 6) z)
    have FR := FR.set (a := b + 7) (x_na 6 (s_snoc P (F 6) z)) (by omega) (by omega)
    obtain ⟨h2, g0, g1, g2, g3, g4, g5, g6, g7, g8, g9, g10, g11⟩ := id H
    refine R_aload_n dX1_addHeir_39 rfl ?_
    refine R_dup dX1_addHeir_40 rfl ?_
    refine R_get dX1_addHeir_41 f_X1_21 g0 rfl ?_
    refine R_iconst (nI 1) dX1_addHeir_44 rfl ?_
    refine R_iaddN dX1_addHeir_45 ?_
    refine R_put dX1_addHeir_46 f_X1_21 g0 (Nat.le_of_ble_eq_true rfl) (fun _ => rfl) (fun _ => rfl) ?_
    simp only [List.set_cons_succ, List.set_cons_zero]
    have H := H.obj (N) (R) (D) (P + 1)
    have FR := FR.set (a := b) (.inr (1, [.int (nI (N)), .int (nI (R)), .int (nI (D)), .int (nI (P + 1)), .ref (b + 1), .ref (b + 2), .ref (b + 3), .ref (b + 4), .ref (b + 5), .ref (b + 6), .ref (b + 7), .ref (b + 8), .ref (b + 15)])) (by omega) (by omega)
    obtain ⟨h2, g0, g1, g2, g3, g4, g5, g6, g7, g8, g9, g10, g11⟩ := id H
    exact R_vret dX1_addHeir_49 rfl rfl rfl ⟨rfl, H, FR⟩
