/-! NEW: the class -/
theorem c_X7_init {h : xH} (hl : h.length = 3) (ho : h[2]? = some d_7) (h1 : h[1]? = some (x_la 6 x_lack)) : x_Met m_X7_init [.ref 2] h (x_vd (fun h' => h'.length = 372 ∧ x_Class h' xZ0 ∧ ∀ q, q < 2 → h'[q]? = h[q]?)) := by
  have ho : h[2]? = some (.inr (7, [.null, .null, .null, .null, .null, .null, .null, .null, .null, .null, .null, .int 0, .int 0])) := ho
  refine x_Met.of (lo := [some (.ref 2), none]) (by decide) rfl rfl rfl ?_
  refine R_aload_n dX7_init_0 rfl ?_
  refine R_obj dX7_init_1 l_X7_1 xi_obi xi_obc rfl rfl rfl ?_
  refine R_aload_n dX7_init_4 rfl ?_
  refine C_new5 dX7_init_5 k_X7_7 rfl rfl ?_
  rw [hl]
  refine R_dup dX7_init_8 rfl ?_
  refine C_callN (N := m_X5_init) dX7_init_9 x_n1 rfl i_X5_init (c_X5_init (h := h ++ [d_5]) (a := 3) (by rw [List.length_append, hl]; rfl) (by rw [List.getElem?_append_right (by omega), hl]; rfl) (by decide)) rfl rfl (fun h101 q101 => ?_)
  obtain ⟨l101, o101, f101⟩ := q101
  have f101 : ∀ q, q < 3 → h101[q]? = h[q]? := fun q hq => (f101 q hq).trans (List.getElem?_append_left (by omega))
  have b1 : h101[2]? = some (.inr (7, [.null, .null, .null, .null, .null, .null, .null, .null, .null, .null, .null, .int 0, .int 0])) := (f101 2 (by omega)).trans ho
  refine R_putF dX7_init_12 f_X7_10 rfl rfl b1 (Nat.le_of_ble_eq_true rfl) (fun _ => rfl) (fun _ => rfl) ?_
  simp only [List.set_cons_succ, List.set_cons_zero]
  obtain ⟨g1, e1⟩ : ∃ g1 : xH, g1 = List.set h101 2 (.inr (7, [.ref 3, .null, .null, .null, .null, .null, .null, .null, .null, .null, .null, .int 0, .int 0])) := ⟨_, rfl⟩
  rw [← e1]
  have hl1 : g1.length = 5 := by rw [e1, List.length_set]; exact l101
  have k1 : ∀ q, ¬ q = 2 → g1[q]? = h101[q]? := fun q hq => by rw [e1]; exact List.getElem?_set_ne (fun z => hq z.symm)
  have fr1 : ∀ q, q < 3 → ¬ q = 2 → g1[q]? = h[q]? := fun q h1 h2 => (k1 q h2).trans (f101 q h1)
  have c1 : g1[2]? = some (.inr (7, [.ref 3, .null, .null, .null, .null, .null, .null, .null, .null, .null, .null, .int 0, .int 0])) := by rw [e1]; exact List.getElem?_set_self (by have := l101; omega)
  refine R_aload_n dX7_init_15 rfl ?_
  refine C_new1 dX7_init_16 k_X7_16 rfl rfl ?_
  rw [hl1]
  refine R_dup dX7_init_19 rfl ?_
  refine C_callN (N := m_X1_init) dX7_init_20 x_n2 rfl i_X1_init (c_X1_init (h := g1 ++ [d_1]) (a := 5) (by rw [List.length_append, hl1]; rfl) (by rw [List.getElem?_append_right (by omega), hl1]; rfl) (by decide)) rfl rfl (fun h102 q102 => ?_)
  obtain ⟨l102, o102, f102⟩ := q102
  have f102 : ∀ q, q < 5 → h102[q]? = g1[q]? := fun q hq => (f102 q hq).trans (List.getElem?_append_left (by omega))
  have b2 : h102[2]? = some (.inr (7, [.ref 3, .null, .null, .null, .null, .null, .null, .null, .null, .null, .null, .int 0, .int 0])) := (f102 2 (by omega)).trans c1
  refine R_put dX7_init_23 f_X7_19 b2 (Nat.le_of_ble_eq_true rfl) (fun _ => rfl) (fun _ => rfl) ?_
  simp only [List.set_cons_succ, List.set_cons_zero]
  obtain ⟨g2, e2⟩ : ∃ g2 : xH, g2 = List.set h102 2 (.inr (7, [.ref 3, .ref 5, .null, .null, .null, .null, .null, .null, .null, .null, .null, .int 0, .int 0])) := ⟨_, rfl⟩
  rw [← e2]
  have hl2 : g2.length = 27 := by rw [e2, List.length_set]; exact l102
  have k2 : ∀ q, ¬ q = 2 → g2[q]? = h102[q]? := fun q hq => by rw [e2]; exact List.getElem?_set_ne (fun z => hq z.symm)
  have fr2 : ∀ q, q < 5 → ¬ q = 2 → g2[q]? = g1[q]? := fun q h1 h2 => (k2 q h2).trans (f102 q h1)
  have c2 : g2[2]? = some (.inr (7, [.ref 3, .ref 5, .null, .null, .null, .null, .null, .null, .null, .null, .null, .int 0, .int 0])) := by rw [e2]; exact List.getElem?_set_self (by have := l102; omega)
  refine R_aload_n dX7_init_26 rfl ?_
  refine C_new1 dX7_init_27 k_X7_16 rfl rfl ?_
  rw [hl2]
  refine R_dup dX7_init_30 rfl ?_
  refine C_callN (N := m_X1_init) dX7_init_31 x_n2 rfl i_X1_init (c_X1_init (h := g2 ++ [d_1]) (a := 27) (by rw [List.length_append, hl2]; rfl) (by rw [List.getElem?_append_right (by omega), hl2]; rfl) (by decide)) rfl rfl (fun h103 q103 => ?_)
  obtain ⟨l103, o103, f103⟩ := q103
  have f103 : ∀ q, q < 27 → h103[q]? = g2[q]? := fun q hq => (f103 q hq).trans (List.getElem?_append_left (by omega))
  have b3 : h103[2]? = some (.inr (7, [.ref 3, .ref 5, .null, .null, .null, .null, .null, .null, .null, .null, .null, .int 0, .int 0])) := (f103 2 (by omega)).trans c2
  refine R_put dX7_init_34 f_X7_23 b3 (Nat.le_of_ble_eq_true rfl) (fun _ => rfl) (fun _ => rfl) ?_
  simp only [List.set_cons_succ, List.set_cons_zero]
  obtain ⟨g3, e3⟩ : ∃ g3 : xH, g3 = List.set h103 2 (.inr (7, [.ref 3, .ref 5, .ref 27, .null, .null, .null, .null, .null, .null, .null, .null, .int 0, .int 0])) := ⟨_, rfl⟩
  rw [← e3]
  have hl3 : g3.length = 49 := by rw [e3, List.length_set]; exact l103
  have k3 : ∀ q, ¬ q = 2 → g3[q]? = h103[q]? := fun q hq => by rw [e3]; exact List.getElem?_set_ne (fun z => hq z.symm)
  have fr3 : ∀ q, q < 27 → ¬ q = 2 → g3[q]? = g2[q]? := fun q h1 h2 => (k3 q h2).trans (f103 q h1)
  have c3 : g3[2]? = some (.inr (7, [.ref 3, .ref 5, .ref 27, .null, .null, .null, .null, .null, .null, .null, .null, .int 0, .int 0])) := by rw [e3]; exact List.getElem?_set_self (by have := l103; omega)
  refine R_aload_n dX7_init_37 rfl ?_
  refine C_new2 dX7_init_38 k_X7_26 rfl rfl ?_
  rw [hl3]
  refine R_dup dX7_init_41 rfl ?_
  refine C_callN (N := m_X2_init) dX7_init_42 x_n3 rfl i_X2_init (c_X2_init (h := g3 ++ [d_2]) (a := 49) (by rw [List.length_append, hl3]; rfl) (by rw [List.getElem?_append_right (by omega), hl3]; rfl) (by decide)) rfl rfl (fun h104 q104 => ?_)
  obtain ⟨l104, o104, f104⟩ := q104
  have f104 : ∀ q, q < 49 → h104[q]? = g3[q]? := fun q hq => (f104 q hq).trans (List.getElem?_append_left (by omega))
  have b4 : h104[2]? = some (.inr (7, [.ref 3, .ref 5, .ref 27, .null, .null, .null, .null, .null, .null, .null, .null, .int 0, .int 0])) := (f104 2 (by omega)).trans c3
  refine R_putF dX7_init_45 f_X7_29 rfl rfl b4 (Nat.le_of_ble_eq_true rfl) (fun _ => rfl) (fun _ => rfl) ?_
  simp only [List.set_cons_succ, List.set_cons_zero]
  obtain ⟨g4, e4⟩ : ∃ g4 : xH, g4 = List.set h104 2 (.inr (7, [.ref 3, .ref 5, .ref 27, .ref 49, .null, .null, .null, .null, .null, .null, .null, .int 0, .int 0])) := ⟨_, rfl⟩
  rw [← e4]
  have hl4 : g4.length = 58 := by rw [e4, List.length_set]; exact l104
  have k4 : ∀ q, ¬ q = 2 → g4[q]? = h104[q]? := fun q hq => by rw [e4]; exact List.getElem?_set_ne (fun z => hq z.symm)
  have fr4 : ∀ q, q < 49 → ¬ q = 2 → g4[q]? = g3[q]? := fun q h1 h2 => (k4 q h2).trans (f104 q h1)
  have c4 : g4[2]? = some (.inr (7, [.ref 3, .ref 5, .ref 27, .ref 49, .null, .null, .null, .null, .null, .null, .null, .int 0, .int 0])) := by rw [e4]; exact List.getElem?_set_self (by have := l104; omega)
  refine R_aload_n dX7_init_48 rfl ?_
  refine C_new6 dX7_init_49 k_X7_33 rfl rfl ?_
  rw [hl4]
  refine R_dup dX7_init_52 rfl ?_
  refine C_callI (N := m_X6_init) dX7_init_53 l_X7_35 rfl i_X6_init (c_X6_init (h := g4 ++ [d_6]) (a := 58) (by rw [List.length_append, hl4]; rfl) (by rw [List.getElem?_append_right (by omega), hl4]; rfl) (by decide)) rfl rfl (fun h105 q105 => ?_)
  obtain ⟨l105, o105, on105, f105⟩ := q105
  have f105 : ∀ q, q < 58 → h105[q]? = g4[q]? := fun q hq => (f105 q hq).trans (List.getElem?_append_left (by omega))
  have b5 : h105[2]? = some (.inr (7, [.ref 3, .ref 5, .ref 27, .ref 49, .null, .null, .null, .null, .null, .null, .null, .int 0, .int 0])) := (f105 2 (by omega)).trans c4
  refine R_putF dX7_init_56 f_X7_36 rfl rfl b5 (Nat.le_of_ble_eq_true rfl) (fun _ => rfl) (fun _ => rfl) ?_
  simp only [List.set_cons_succ, List.set_cons_zero]
  obtain ⟨g5, e5⟩ : ∃ g5 : xH, g5 = List.set h105 2 (.inr (7, [.ref 3, .ref 5, .ref 27, .ref 49, .ref 58, .null, .null, .null, .null, .null, .null, .int 0, .int 0])) := ⟨_, rfl⟩
  rw [← e5]
  have hl5 : g5.length = 330 := by rw [e5, List.length_set]; exact l105
  have k5 : ∀ q, ¬ q = 2 → g5[q]? = h105[q]? := fun q hq => by rw [e5]; exact List.getElem?_set_ne (fun z => hq z.symm)
  have fr5 : ∀ q, q < 58 → ¬ q = 2 → g5[q]? = g4[q]? := fun q h1 h2 => (k5 q h2).trans (f105 q h1)
  have c5 : g5[2]? = some (.inr (7, [.ref 3, .ref 5, .ref 27, .ref 49, .ref 58, .null, .null, .null, .null, .null, .null, .int 0, .int 0])) := by rw [e5]; exact List.getElem?_set_self (by have := l105; omega)
  refine R_aload_n dX7_init_59 rfl ?_
  refine R_iconst (nI 2) dX7_init_60 rfl ?_
  refine R_newq dX7_init_61 k_X7_26 rfl rfl rfl rfl ?_
  rw [hl5]
  have l106 : (g5 ++ [(.inl (3, 2, .inr (.inr (.inr (.inr (fun _ => none))))) : xC)]).length = 331 := by rw [List.length_append, hl5]; rfl
  have o106 : (g5 ++ [(.inl (3, 2, .inr (.inr (.inr (.inr (fun _ => none))))) : xC)])[330]? = some (.inl (3, 2, .inr (.inr (.inr (.inr (fun _ => none)))))) := by rw [List.getElem?_append_right (by omega), hl5]; rfl
  show x_Rn _ _ _ _ (g5 ++ [(.inl (3, 2, .inr (.inr (.inr (.inr (fun _ => none))))) : xC)]) _ _
  have b6 : (g5 ++ [(.inl (3, 2, .inr (.inr (.inr (.inr (fun _ => none))))) : xC)])[2]? = some (.inr (7, [.ref 3, .ref 5, .ref 27, .ref 49, .ref 58, .null, .null, .null, .null, .null, .null, .int 0, .int 0])) := (List.getElem?_append_left (by omega)).trans c5
  refine R_putF dX7_init_64 f_X7_40 rfl rfl b6 (Nat.le_of_ble_eq_true rfl) (fun _ => rfl) (fun _ => rfl) ?_
  simp only [List.set_cons_succ, List.set_cons_zero]
  obtain ⟨g6, e6⟩ : ∃ g6 : xH, g6 = List.set (g5 ++ [(.inl (3, 2, .inr (.inr (.inr (.inr (fun _ => none))))) : xC)]) 2 (.inr (7, [.ref 3, .ref 5, .ref 27, .ref 49, .ref 58, .ref 330, .null, .null, .null, .null, .null, .int 0, .int 0])) := ⟨_, rfl⟩
  rw [← e6]
  have hl6 : g6.length = 331 := by rw [e6, List.length_set]; exact l106
  have k6 : ∀ q, ¬ q = 2 → g6[q]? = (g5 ++ [(.inl (3, 2, .inr (.inr (.inr (.inr (fun _ => none))))) : xC)])[q]? := fun q hq => by rw [e6]; exact List.getElem?_set_ne (fun z => hq z.symm)
  have fr6 : ∀ q, q < 330 → ¬ q = 2 → g6[q]? = g5[q]? := fun q h1 h2 => (k6 q h2).trans (List.getElem?_append_left (by omega))
  have c6 : g6[2]? = some (.inr (7, [.ref 3, .ref 5, .ref 27, .ref 49, .ref 58, .ref 330, .null, .null, .null, .null, .null, .int 0, .int 0])) := by rw [e6]; exact List.getElem?_set_self (by have := l106; omega)
  refine R_aload_n dX7_init_67 rfl ?_
  refine R_iconst (nI 2) dX7_init_68 rfl ?_
  refine R_newa dX7_init_69 (by first | exact Or.inl rfl | exact Or.inr (Or.inl rfl) | exact Or.inr (Or.inr rfl)) xi_ac_int rfl rfl rfl rfl ?_
  rw [hl6]
  have l107 : (g6 ++ [(.inl (0, 2, .inl (fun _ => 0)) : xC)]).length = 332 := by rw [List.length_append, hl6]; rfl
  have o107 : (g6 ++ [(.inl (0, 2, .inl (fun _ => 0)) : xC)])[331]? = some (.inl (0, 2, .inl (fun _ => 0))) := by rw [List.getElem?_append_right (by omega), hl6]; rfl
  show x_Rn _ _ _ _ (g6 ++ [(.inl (0, 2, .inl (fun _ => 0)) : xC)]) _ _
  have b7 : (g6 ++ [(.inl (0, 2, .inl (fun _ => 0)) : xC)])[2]? = some (.inr (7, [.ref 3, .ref 5, .ref 27, .ref 49, .ref 58, .ref 330, .null, .null, .null, .null, .null, .int 0, .int 0])) := (List.getElem?_append_left (by omega)).trans c6
  refine R_putF dX7_init_71 f_X7_44 rfl rfl b7 (Nat.le_of_ble_eq_true rfl) (fun _ => rfl) (fun _ => rfl) ?_
  simp only [List.set_cons_succ, List.set_cons_zero]
  obtain ⟨g7, e7⟩ : ∃ g7 : xH, g7 = List.set (g6 ++ [(.inl (0, 2, .inl (fun _ => 0)) : xC)]) 2 (.inr (7, [.ref 3, .ref 5, .ref 27, .ref 49, .ref 58, .ref 330, .ref 331, .null, .null, .null, .null, .int 0, .int 0])) := ⟨_, rfl⟩
  rw [← e7]
  have hl7 : g7.length = 332 := by rw [e7, List.length_set]; exact l107
  have k7 : ∀ q, ¬ q = 2 → g7[q]? = (g6 ++ [(.inl (0, 2, .inl (fun _ => 0)) : xC)])[q]? := fun q hq => by rw [e7]; exact List.getElem?_set_ne (fun z => hq z.symm)
  have fr7 : ∀ q, q < 331 → ¬ q = 2 → g7[q]? = g6[q]? := fun q h1 h2 => (k7 q h2).trans (List.getElem?_append_left (by omega))
  have c7 : g7[2]? = some (.inr (7, [.ref 3, .ref 5, .ref 27, .ref 49, .ref 58, .ref 330, .ref 331, .null, .null, .null, .null, .int 0, .int 0])) := by rw [e7]; exact List.getElem?_set_self (by have := l107; omega)
  refine R_aload_n dX7_init_74 rfl ?_
  refine R_iconst (nI 2) dX7_init_75 rfl ?_
  refine R_newa dX7_init_76 (by first | exact Or.inl rfl | exact Or.inr (Or.inl rfl) | exact Or.inr (Or.inr rfl)) xi_ac_boolean rfl rfl rfl rfl ?_
  rw [hl7]
  have l108 : (g7 ++ [(.inl (2, 2, .inl (fun _ => 0)) : xC)]).length = 333 := by rw [List.length_append, hl7]; rfl
  have o108 : (g7 ++ [(.inl (2, 2, .inl (fun _ => 0)) : xC)])[332]? = some (.inl (2, 2, .inl (fun _ => 0))) := by rw [List.getElem?_append_right (by omega), hl7]; rfl
  show x_Rn _ _ _ _ (g7 ++ [(.inl (2, 2, .inl (fun _ => 0)) : xC)]) _ _
  have b8 : (g7 ++ [(.inl (2, 2, .inl (fun _ => 0)) : xC)])[2]? = some (.inr (7, [.ref 3, .ref 5, .ref 27, .ref 49, .ref 58, .ref 330, .ref 331, .null, .null, .null, .null, .int 0, .int 0])) := (List.getElem?_append_left (by omega)).trans c7
  refine R_putF dX7_init_78 f_X7_48 rfl rfl b8 (Nat.le_of_ble_eq_true rfl) (fun _ => rfl) (fun _ => rfl) ?_
  simp only [List.set_cons_succ, List.set_cons_zero]
  obtain ⟨g8, e8⟩ : ∃ g8 : xH, g8 = List.set (g7 ++ [(.inl (2, 2, .inl (fun _ => 0)) : xC)]) 2 (.inr (7, [.ref 3, .ref 5, .ref 27, .ref 49, .ref 58, .ref 330, .ref 331, .ref 332, .null, .null, .null, .int 0, .int 0])) := ⟨_, rfl⟩
  rw [← e8]
  have hl8 : g8.length = 333 := by rw [e8, List.length_set]; exact l108
  have k8 : ∀ q, ¬ q = 2 → g8[q]? = (g7 ++ [(.inl (2, 2, .inl (fun _ => 0)) : xC)])[q]? := fun q hq => by rw [e8]; exact List.getElem?_set_ne (fun z => hq z.symm)
  have fr8 : ∀ q, q < 332 → ¬ q = 2 → g8[q]? = g7[q]? := fun q h1 h2 => (k8 q h2).trans (List.getElem?_append_left (by omega))
  have c8 : g8[2]? = some (.inr (7, [.ref 3, .ref 5, .ref 27, .ref 49, .ref 58, .ref 330, .ref 331, .ref 332, .null, .null, .null, .int 0, .int 0])) := by rw [e8]; exact List.getElem?_set_self (by have := l108; omega)
  refine R_aload_n dX7_init_81 rfl ?_
  refine C_new3 dX7_init_82 k_X7_52 rfl rfl ?_
  rw [hl8]
  refine R_dup dX7_init_85 rfl ?_
  refine C_callN (N := m_X3_init) dX7_init_86 x_n4 rfl i_X3_init (c_X3_init (h := g8 ++ [d_3]) (a := 333) (by rw [List.length_append, hl8]; rfl) (by rw [List.getElem?_append_right (by omega), hl8]; rfl) (by decide)) rfl rfl (fun h109 q109 => ?_)
  obtain ⟨l109, o109, f109⟩ := q109
  have f109 : ∀ q, q < 333 → h109[q]? = g8[q]? := fun q hq => (f109 q hq).trans (List.getElem?_append_left (by omega))
  have b9 : h109[2]? = some (.inr (7, [.ref 3, .ref 5, .ref 27, .ref 49, .ref 58, .ref 330, .ref 331, .ref 332, .null, .null, .null, .int 0, .int 0])) := (f109 2 (by omega)).trans c8
  refine R_putF dX7_init_89 f_X7_55 rfl rfl b9 (Nat.le_of_ble_eq_true rfl) (fun _ => rfl) (fun _ => rfl) ?_
  simp only [List.set_cons_succ, List.set_cons_zero]
  obtain ⟨g9, e9⟩ : ∃ g9 : xH, g9 = List.set h109 2 (.inr (7, [.ref 3, .ref 5, .ref 27, .ref 49, .ref 58, .ref 330, .ref 331, .ref 332, .ref 333, .null, .null, .int 0, .int 0])) := ⟨_, rfl⟩
  rw [← e9]
  have hl9 : g9.length = 348 := by rw [e9, List.length_set]; exact l109
  have k9 : ∀ q, ¬ q = 2 → g9[q]? = h109[q]? := fun q hq => by rw [e9]; exact List.getElem?_set_ne (fun z => hq z.symm)
  have fr9 : ∀ q, q < 333 → ¬ q = 2 → g9[q]? = g8[q]? := fun q h1 h2 => (k9 q h2).trans (f109 q h1)
  have c9 : g9[2]? = some (.inr (7, [.ref 3, .ref 5, .ref 27, .ref 49, .ref 58, .ref 330, .ref 331, .ref 332, .ref 333, .null, .null, .int 0, .int 0])) := by rw [e9]; exact List.getElem?_set_self (by have := l109; omega)
  refine R_aload_n dX7_init_92 rfl ?_
  refine C_new4 dX7_init_93 k_X7_59 rfl rfl ?_
  rw [hl9]
  refine R_dup dX7_init_96 rfl ?_
  refine C_callN (N := m_X4_init) dX7_init_97 x_n5 rfl i_X4_init (c_X4_init (h := g9 ++ [d_4]) (a := 348) (by rw [List.length_append, hl9]; rfl) (by rw [List.getElem?_append_right (by omega), hl9]; rfl) (by decide)) rfl rfl (fun h110 q110 => ?_)
  obtain ⟨l110, o110, f110⟩ := q110
  have f110 : ∀ q, q < 348 → h110[q]? = g9[q]? := fun q hq => (f110 q hq).trans (List.getElem?_append_left (by omega))
  have b10 : h110[2]? = some (.inr (7, [.ref 3, .ref 5, .ref 27, .ref 49, .ref 58, .ref 330, .ref 331, .ref 332, .ref 333, .null, .null, .int 0, .int 0])) := (f110 2 (by omega)).trans c9
  refine R_putF dX7_init_100 f_X7_62 rfl rfl b10 (Nat.le_of_ble_eq_true rfl) (fun _ => rfl) (fun _ => rfl) ?_
  simp only [List.set_cons_succ, List.set_cons_zero]
  obtain ⟨g10, e10⟩ : ∃ g10 : xH, g10 = List.set h110 2 (.inr (7, [.ref 3, .ref 5, .ref 27, .ref 49, .ref 58, .ref 330, .ref 331, .ref 332, .ref 333, .ref 348, .null, .int 0, .int 0])) := ⟨_, rfl⟩
  rw [← e10]
  have hl10 : g10.length = 351 := by rw [e10, List.length_set]; exact l110
  have k10 : ∀ q, ¬ q = 2 → g10[q]? = h110[q]? := fun q hq => by rw [e10]; exact List.getElem?_set_ne (fun z => hq z.symm)
  have fr10 : ∀ q, q < 348 → ¬ q = 2 → g10[q]? = g9[q]? := fun q h1 h2 => (k10 q h2).trans (f110 q h1)
  have c10 : g10[2]? = some (.inr (7, [.ref 3, .ref 5, .ref 27, .ref 49, .ref 58, .ref 330, .ref 331, .ref 332, .ref 333, .ref 348, .null, .int 0, .int 0])) := by rw [e10]; exact List.getElem?_set_self (by have := l110; omega)
  refine R_aload_n dX7_init_103 rfl ?_
  refine C_new0 dX7_init_104 k_X7_66 rfl rfl ?_
  rw [hl10]
  refine R_dup dX7_init_107 rfl ?_
  refine C_callN (N := m_X0_init) dX7_init_108 x_n6 rfl i_X0_init (c_X0_init (h := g10 ++ [d_0]) (a := 351) (by rw [List.length_append, hl10]; rfl) (by rw [List.getElem?_append_right (by omega), hl10]; rfl) (by decide)) rfl rfl (fun h111 q111 => ?_)
  obtain ⟨l111, o111, f111⟩ := q111
  have f111 : ∀ q, q < 351 → h111[q]? = g10[q]? := fun q hq => (f111 q hq).trans (List.getElem?_append_left (by omega))
  have b11 : h111[2]? = some (.inr (7, [.ref 3, .ref 5, .ref 27, .ref 49, .ref 58, .ref 330, .ref 331, .ref 332, .ref 333, .ref 348, .null, .int 0, .int 0])) := (f111 2 (by omega)).trans c10
  refine R_putF dX7_init_111 f_X7_69 rfl rfl b11 (Nat.le_of_ble_eq_true rfl) (fun _ => rfl) (fun _ => rfl) ?_
  simp only [List.set_cons_succ, List.set_cons_zero]
  obtain ⟨g11, e11⟩ : ∃ g11 : xH, g11 = List.set h111 2 (.inr (7, [.ref 3, .ref 5, .ref 27, .ref 49, .ref 58, .ref 330, .ref 331, .ref 332, .ref 333, .ref 348, .ref 351, .int 0, .int 0])) := ⟨_, rfl⟩
  rw [← e11]
  have hl11 : g11.length = 354 := by rw [e11, List.length_set]; exact l111
  have k11 : ∀ q, ¬ q = 2 → g11[q]? = h111[q]? := fun q hq => by rw [e11]; exact List.getElem?_set_ne (fun z => hq z.symm)
  have fr11 : ∀ q, q < 351 → ¬ q = 2 → g11[q]? = g10[q]? := fun q h1 h2 => (k11 q h2).trans (f111 q h1)
  have c11 : g11[2]? = some (.inr (7, [.ref 3, .ref 5, .ref 27, .ref 49, .ref 58, .ref 330, .ref 331, .ref 332, .ref 333, .ref 348, .ref 351, .int 0, .int 0])) := by rw [e11]; exact List.getElem?_set_self (by have := l111; omega)
  refine R_aload_n dX7_init_114 rfl ?_
  refine R_iconst (nI 0) dX7_init_115 rfl ?_
  have b12 : g11[2]? = some (.inr (7, [.ref 3, .ref 5, .ref 27, .ref 49, .ref 58, .ref 330, .ref 331, .ref 332, .ref 333, .ref 348, .ref 351, .int 0, .int 0])) := c11
  refine R_put dX7_init_116 f_X7_73 b12 (Nat.le_of_ble_eq_true rfl) (fun _ => rfl) (fun _ => rfl) ?_
  simp only [List.set_cons_succ, List.set_cons_zero]
  obtain ⟨g12, e12⟩ : ∃ g12 : xH, g12 = List.set g11 2 (.inr (7, [.ref 3, .ref 5, .ref 27, .ref 49, .ref 58, .ref 330, .ref 331, .ref 332, .ref 333, .ref 348, .ref 351, .int (nI 0), .int 0])) := ⟨_, rfl⟩
  rw [← e12]
  have hl12 : g12.length = 354 := by rw [e12, List.length_set]; exact hl11
  have k12 : ∀ q, ¬ q = 2 → g12[q]? = g11[q]? := fun q hq => by rw [e12]; exact List.getElem?_set_ne (fun z => hq z.symm)
  have fr12 : ∀ q, q < 354 → ¬ q = 2 → g12[q]? = g11[q]? := fun q h1 h2 => (k12 q h2).trans (rfl)
  have c12 : g12[2]? = some (.inr (7, [.ref 3, .ref 5, .ref 27, .ref 49, .ref 58, .ref 330, .ref 331, .ref 332, .ref 333, .ref 348, .ref 351, .int (nI 0), .int 0])) := by rw [e12]; exact List.getElem?_set_self (by have := hl11; omega)
  refine R_aload_n dX7_init_119 rfl ?_
  refine R_iconst (-1) dX7_init_120 rfl ?_
  have b13 : g12[2]? = some (.inr (7, [.ref 3, .ref 5, .ref 27, .ref 49, .ref 58, .ref 330, .ref 331, .ref 332, .ref 333, .ref 348, .ref 351, .int (nI 0), .int 0])) := c12
  refine R_put dX7_init_121 f_X7_77 b13 (Nat.le_of_ble_eq_true rfl) (fun _ => rfl) (fun _ => rfl) ?_
  simp only [List.set_cons_succ, List.set_cons_zero]
  obtain ⟨g13, e13⟩ : ∃ g13 : xH, g13 = List.set g12 2 (.inr (7, [.ref 3, .ref 5, .ref 27, .ref 49, .ref 58, .ref 330, .ref 331, .ref 332, .ref 333, .ref 348, .ref 351, .int (nI 0), .int (-1)])) := ⟨_, rfl⟩
  rw [← e13]
  have hl13 : g13.length = 354 := by rw [e13, List.length_set]; exact hl12
  have k13 : ∀ q, ¬ q = 2 → g13[q]? = g12[q]? := fun q hq => by rw [e13]; exact List.getElem?_set_ne (fun z => hq z.symm)
  have fr13 : ∀ q, q < 354 → ¬ q = 2 → g13[q]? = g12[q]? := fun q h1 h2 => (k13 q h2).trans (rfl)
  have c13 : g13[2]? = some (.inr (7, [.ref 3, .ref 5, .ref 27, .ref 49, .ref 58, .ref 330, .ref 331, .ref 332, .ref 333, .ref 348, .ref 351, .int (nI 0), .int (-1)])) := by rw [e13]; exact List.getElem?_set_self (by have := hl12; omega)
  refine R_iconst (nI 0) dX7_init_124 rfl ?_
  refine R_istore_n dX7_init_125 (Nat.le_of_ble_eq_true rfl) rfl ?_
  refine R_iload_n dX7_init_126 rfl ?_
  refine R_iconst (nI 2) dX7_init_127 rfl ?_
  refine R_geN 150 dX7_init_128 rfl (by omega) (by omega) (fun c_9 => absurd c_9 (by omega)) (fun _ => ?_)
  refine R_aload_n dX7_init_131 rfl ?_
  refine R_get dX7_init_132 f_X7_40 c13 rfl ?_
  refine R_iload_n dX7_init_135 rfl ?_
  have im0 : g13[330]? = some (.inl (3, 2, .inr (.inr (.inr (.inr (fun _ => none)))))) := (show g13[330]? = g6[330]? from (fun q (h1 : 330 ≤ q) (h2 : q < 331) => ((((((fr13 q (by omega) (by omega)).trans (fr12 q (by omega) (by omega))).trans (fr11 q (by omega) (by omega))).trans (fr10 q (by omega) (by omega))).trans (fr9 q (by omega) (by omega))).trans (fr8 q (by omega) (by omega))).trans (fr7 q (by omega) (by omega))) 330 (by decide) (by decide)).trans ((k6 330 (by decide)).trans o106)
  refine C_new2 dX7_init_136 k_X7_26 rfl rfl ?_
  rw [hl13]
  refine R_dup dX7_init_139 rfl ?_
  refine C_callN (N := m_X2_init) dX7_init_140 x_n3 rfl i_X2_init (c_X2_init (h := g13 ++ [d_2]) (a := 354) (by rw [List.length_append, hl13]; rfl) (by rw [List.getElem?_append_right (by omega), hl13]; rfl) (by decide)) rfl rfl (fun h112 q112 => ?_)
  obtain ⟨l112, o112, f112⟩ := q112
  have f112 : ∀ q, q < 354 → h112[q]? = g13[q]? := fun q hq => (f112 q hq).trans (List.getElem?_append_left (by omega))
  refine R_aast (j := 0) dX7_init_143 ((f112 330 (by omega)).trans im0) o112.2.1 rfl (by decide) (by decide) ?_
  obtain ⟨g14, e14⟩ : ∃ g14 : xH, g14 = List.set h112 330 (.inl (3, 2, .inr (.inr (.inr (.inr (va_up (fun _ => none) 0 (some 354))))))) := ⟨_, rfl⟩
  rw [← e14]
  have hl14 : g14.length = 363 := by rw [e14, List.length_set]; exact l112
  have k14 : ∀ q, ¬ q = 330 → g14[q]? = h112[q]? := fun q hq => by rw [e14]; exact List.getElem?_set_ne (fun z => hq z.symm)
  have fr14 : ∀ q, q < 354 → ¬ q = 330 → g14[q]? = g13[q]? := fun q h1 h2 => (k14 q h2).trans (f112 q h1)
  have c14 : g14[2]? = some (.inr (7, [.ref 3, .ref 5, .ref 27, .ref 49, .ref 58, .ref 330, .ref 331, .ref 332, .ref 333, .ref 348, .ref 351, .int (nI 0), .int (-1)])) := (fr14 2 (by omega) (by omega)).trans c13
  have im1 : g14[330]? = some (.inl (3, 2, .inr (.inr (.inr (.inr (va_up (fun _ => none) 0 (some 354))))))) := by rw [e14]; exact List.getElem?_set_self (by have := l112; omega)
  refine R_iincN dX7_init_144 rfl (Nat.le_of_ble_eq_true rfl) rfl ?_
  refine R_goto 126 dX7_init_147 rfl ?_
  refine R_iload_n dX7_init_126 rfl ?_
  refine R_iconst (nI 2) dX7_init_127 rfl ?_
  refine R_geN 150 dX7_init_128 rfl (by omega) (by omega) (fun c_9 => absurd c_9 (by omega)) (fun _ => ?_)
  refine R_aload_n dX7_init_131 rfl ?_
  refine R_get dX7_init_132 f_X7_40 c14 rfl ?_
  refine R_iload_n dX7_init_135 rfl ?_
  refine C_new2 dX7_init_136 k_X7_26 rfl rfl ?_
  rw [hl14]
  refine R_dup dX7_init_139 rfl ?_
  refine C_callN (N := m_X2_init) dX7_init_140 x_n3 rfl i_X2_init (c_X2_init (h := g14 ++ [d_2]) (a := 363) (by rw [List.length_append, hl14]; rfl) (by rw [List.getElem?_append_right (by omega), hl14]; rfl) (by decide)) rfl rfl (fun h113 q113 => ?_)
  obtain ⟨l113, o113, f113⟩ := q113
  have f113 : ∀ q, q < 363 → h113[q]? = g14[q]? := fun q hq => (f113 q hq).trans (List.getElem?_append_left (by omega))
  refine R_aast (j := 1) dX7_init_143 ((f113 330 (by omega)).trans im1) o113.2.1 rfl (by decide) (by decide) ?_
  obtain ⟨g15, e15⟩ : ∃ g15 : xH, g15 = List.set h113 330 (.inl (3, 2, .inr (.inr (.inr (.inr (va_up (va_up (fun _ => none) 0 (some 354)) 1 (some 363))))))) := ⟨_, rfl⟩
  rw [← e15]
  have hl15 : g15.length = 372 := by rw [e15, List.length_set]; exact l113
  have k15 : ∀ q, ¬ q = 330 → g15[q]? = h113[q]? := fun q hq => by rw [e15]; exact List.getElem?_set_ne (fun z => hq z.symm)
  have fr15 : ∀ q, q < 363 → ¬ q = 330 → g15[q]? = g14[q]? := fun q h1 h2 => (k15 q h2).trans (f113 q h1)
  have c15 : g15[2]? = some (.inr (7, [.ref 3, .ref 5, .ref 27, .ref 49, .ref 58, .ref 330, .ref 331, .ref 332, .ref 333, .ref 348, .ref 351, .int (nI 0), .int (-1)])) := (fr15 2 (by omega) (by omega)).trans c14
  have im2 : g15[330]? = some (.inl (3, 2, .inr (.inr (.inr (.inr (va_up (va_up (fun _ => none) 0 (some 354)) 1 (some 363))))))) := by rw [e15]; exact List.getElem?_set_self (by have := l113; omega)
  refine R_iincN dX7_init_144 rfl (Nat.le_of_ble_eq_true rfl) rfl ?_
  refine R_goto 126 dX7_init_147 rfl ?_
  refine R_iload_n dX7_init_126 rfl ?_
  refine R_iconst (nI 2) dX7_init_127 rfl ?_
  refine R_geN 150 dX7_init_128 rfl (by omega) (by omega) (fun c_9 => ?_) (fun c_9 => absurd c_9 (by omega))
  have K3 := fun q (q1 : 3 ≤ q) (q2 : q < 5) => (show g15[q]? = h101[q]? from ((((((((((((((fr15 q (by omega) (by omega)).trans (fr14 q (by omega) (by omega))).trans (fr13 q (by omega) (by omega))).trans (fr12 q (by omega) (by omega))).trans (fr11 q (by omega) (by omega))).trans (fr10 q (by omega) (by omega))).trans (fr9 q (by omega) (by omega))).trans (fr8 q (by omega) (by omega))).trans (fr7 q (by omega) (by omega))).trans (fr6 q (by omega) (by omega))).trans (fr5 q (by omega) (by omega))).trans (fr4 q (by omega) (by omega))).trans (fr3 q (by omega) (by omega))).trans (fr2 q (by omega) (by omega))).trans (k1 q (by omega)))
  have z3 := o101.kept (K3 3 (by decide) (by decide)) (K3 4 (by decide) (by decide))
  have z5 := o102.kept (fun q (q1 : 5 ≤ q) (q2 : q < 27) => (show g15[q]? = h102[q]? from (((((((((((((fr15 q (by omega) (by omega)).trans (fr14 q (by omega) (by omega))).trans (fr13 q (by omega) (by omega))).trans (fr12 q (by omega) (by omega))).trans (fr11 q (by omega) (by omega))).trans (fr10 q (by omega) (by omega))).trans (fr9 q (by omega) (by omega))).trans (fr8 q (by omega) (by omega))).trans (fr7 q (by omega) (by omega))).trans (fr6 q (by omega) (by omega))).trans (fr5 q (by omega) (by omega))).trans (fr4 q (by omega) (by omega))).trans (fr3 q (by omega) (by omega))).trans (k2 q (by omega))))
  have z27 := o103.kept (fun q (q1 : 27 ≤ q) (q2 : q < 49) => (show g15[q]? = h103[q]? from ((((((((((((fr15 q (by omega) (by omega)).trans (fr14 q (by omega) (by omega))).trans (fr13 q (by omega) (by omega))).trans (fr12 q (by omega) (by omega))).trans (fr11 q (by omega) (by omega))).trans (fr10 q (by omega) (by omega))).trans (fr9 q (by omega) (by omega))).trans (fr8 q (by omega) (by omega))).trans (fr7 q (by omega) (by omega))).trans (fr6 q (by omega) (by omega))).trans (fr5 q (by omega) (by omega))).trans (fr4 q (by omega) (by omega))).trans (k3 q (by omega))))
  have z49 := o104.kept (fun q (q1 : 49 ≤ q) (q2 : q < 58) => (show g15[q]? = h104[q]? from (((((((((((fr15 q (by omega) (by omega)).trans (fr14 q (by omega) (by omega))).trans (fr13 q (by omega) (by omega))).trans (fr12 q (by omega) (by omega))).trans (fr11 q (by omega) (by omega))).trans (fr10 q (by omega) (by omega))).trans (fr9 q (by omega) (by omega))).trans (fr8 q (by omega) (by omega))).trans (fr7 q (by omega) (by omega))).trans (fr6 q (by omega) (by omega))).trans (fr5 q (by omega) (by omega))).trans (k4 q (by omega))))
  have K58 := fun q (q1 : 58 ≤ q) (q2 : q < 330) => (show g15[q]? = h105[q]? from ((((((((((fr15 q (by omega) (by omega)).trans (fr14 q (by omega) (by omega))).trans (fr13 q (by omega) (by omega))).trans (fr12 q (by omega) (by omega))).trans (fr11 q (by omega) (by omega))).trans (fr10 q (by omega) (by omega))).trans (fr9 q (by omega) (by omega))).trans (fr8 q (by omega) (by omega))).trans (fr7 q (by omega) (by omega))).trans (fr6 q (by omega) (by omega))).trans (k5 q (by omega)))
  have z58 := o105.kept (K58 58 (by decide) (by decide)) (K58 59 (by decide) (by decide))
  have zn58 : ∀ i, i < 30 → x_Night g15 (60 + 9 * i) 0 0 xQ0 := fun i hi => (on105 i hi).kept (fun q q1 q2 => K58 q (by omega) (by omega))
  have z331 : g15[331]? = _ := ((fun q (q1 : 331 ≤ q) (q2 : q < 332) => ((((((((fr15 q (by omega) (by omega)).trans (fr14 q (by omega) (by omega))).trans (fr13 q (by omega) (by omega))).trans (fr12 q (by omega) (by omega))).trans (fr11 q (by omega) (by omega))).trans (fr10 q (by omega) (by omega))).trans (fr9 q (by omega) (by omega))).trans (fr8 q (by omega) (by omega)) : g15[q]? = g7[q]?)) 331 (by decide) (by decide)).trans ((k7 331 (by decide)).trans o107)
  have z332 : g15[332]? = _ := ((fun q (q1 : 332 ≤ q) (q2 : q < 333) => (((((((fr15 q (by omega) (by omega)).trans (fr14 q (by omega) (by omega))).trans (fr13 q (by omega) (by omega))).trans (fr12 q (by omega) (by omega))).trans (fr11 q (by omega) (by omega))).trans (fr10 q (by omega) (by omega))).trans (fr9 q (by omega) (by omega)) : g15[q]? = g8[q]?)) 332 (by decide) (by decide)).trans ((k8 332 (by decide)).trans o108)
  have z333 := o109.kept (fun q (q1 : 333 ≤ q) (q2 : q < 348) => (show g15[q]? = h109[q]? from ((((((fr15 q (by omega) (by omega)).trans (fr14 q (by omega) (by omega))).trans (fr13 q (by omega) (by omega))).trans (fr12 q (by omega) (by omega))).trans (fr11 q (by omega) (by omega))).trans (fr10 q (by omega) (by omega))).trans (k9 q (by omega))))
  have z348 := o110.kept (fun q (q1 : 348 ≤ q) (q2 : q < 351) => (show g15[q]? = h110[q]? from (((((fr15 q (by omega) (by omega)).trans (fr14 q (by omega) (by omega))).trans (fr13 q (by omega) (by omega))).trans (fr12 q (by omega) (by omega))).trans (fr11 q (by omega) (by omega))).trans (k10 q (by omega))))
  have z351 := o111.kept (fun q (q1 : 351 ≤ q) (q2 : q < 354) => (show g15[q]? = h111[q]? from ((((fr15 q (by omega) (by omega)).trans (fr14 q (by omega) (by omega))).trans (fr13 q (by omega) (by omega))).trans (fr12 q (by omega) (by omega))).trans (k11 q (by omega))))
  have z354 := o112.kept (fun q (q1 : 354 ≤ q) (q2 : q < 363) => (show g15[q]? = h112[q]? from (fr15 q (by omega) (by omega)).trans (k14 q (by omega))))
  have z363 := o113.kept (fun q (q1 : 363 ≤ q) (q2 : q < 372) => (show g15[q]? = h113[q]? from ((rfl : g15[q]? = g15[q]?)).trans (k15 q (by omega))))
  have FR : ∀ q, q < 2 → g15[q]? = h[q]? := fun q hq => ((((((((((((((fr15 q (by omega) (by omega)).trans (fr14 q (by omega) (by omega))).trans (fr13 q (by omega) (by omega))).trans (fr12 q (by omega) (by omega))).trans (fr11 q (by omega) (by omega))).trans (fr10 q (by omega) (by omega))).trans (fr9 q (by omega) (by omega))).trans (fr8 q (by omega) (by omega))).trans (fr7 q (by omega) (by omega))).trans (fr6 q (by omega) (by omega))).trans (fr5 q (by omega) (by omega))).trans (fr4 q (by omega) (by omega))).trans (fr3 q (by omega) (by omega))).trans (fr2 q (by omega) (by omega))).trans (fr1 q (by omega) (by omega))
  have ef : (va_up (va_up (fun _ => none) 0 (some 354)) 1 (some 363)) = (fun i => if i < 2 then some (354 + 9 * i) else none) := by
    funext j
    unfold va_up
    by_cases j1 : j = 1
    · subst j1; rfl
    · rw [if_neg j1]
      by_cases j0 : j = 0
      · subst j0; rfl
      · rw [if_neg j0, if_neg (by omega)]
  rw [ef] at im2
  refine R_vret dX7_init_150 rfl rfl rfl ⟨rfl, hl15, ?_, FR⟩
  exact ⟨5, 27, (0, -1, 0), (0, 0, 0, 0, xF0), 0, -1, -1, xA0, xA0, (FR 1 (by decide)).trans h1, Or.inl ⟨rfl, rfl⟩, c15, z3, z5, z27, z49, ⟨z58, fun i hi => ⟨xQ0, zn58 i hi⟩, fun d hd => absurd hd (Nat.not_lt_zero d)⟩, ⟨im2, ⟨_, z331, fun i _ z => absurd z Bool.false_ne_true⟩, ⟨_, z332, fun _ _ => rfl⟩, fun i hi => ⟨xQ0, match i, hi with | 0, _ => z354 | 1, _ => z363 | i + 2, h => absurd h (by omega)⟩, fun i _ z => absurd z Bool.false_ne_true⟩, z333, z348, z351⟩
