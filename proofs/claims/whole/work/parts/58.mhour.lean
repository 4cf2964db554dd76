/-! THE MODEL: an hour passes -/
def q_h1 (Q : xQ) (r : Nat) : xQ := (Q.1 + 1, Q.2.1, Q.2.2.1, Q.2.2.2.1, Q.2.2.2.2.1, (fun j => if j < r then false else Q.2.2.2.2.2.1 j), (fun j => if j < r then s_will Q j 0 else Q.2.2.2.2.2.2.1 j), Q.2.2.2.2.2.2.2)
def q_h2 (R : Nat) (Q : xQ) (x : Nat) : xQ := (Q.1 + 1, Q.2.1, Q.2.2.1, Q.2.2.2.1, Q.2.2.2.2.1, (fun j => if j < R then false else Q.2.2.2.2.2.1 j), (fun j => if j < R then s_will Q j 0 else Q.2.2.2.2.2.2.1 j), (fun i j => if 6 * i + j < x then -1 else Q.2.2.2.2.2.2.2 i j))
theorem x_stq.clr {f : Nat → Int32} {R P : Nat} {Q : xQ} (H : x_stq f R P Q) (hR : R ≤ 6) {x : Nat} (hx : x < 24) : x_stq (upd f (21 + x) (-1)) R P (q_setla Q (fun i j => if 6 * i + j = x then -1 else q_la Q i j)) := by
  obtain ⟨q0, q1, q2, q3, q9, q15, q21, q45⟩ := H
  refine ⟨(x_upd_ne (by omega)).trans q0, (x_upd_ne (by omega)).trans q1, (x_upd_ne (by omega)).trans q2, fun r hr => (x_upd_ne (by omega)).trans (q3 r hr), fun r hr => (x_upd_ne (by omega)).trans (q9 r hr), fun r hr => (x_upd_ne (by omega)).trans (q15 r hr), fun i r hi hr => ?_, fun p hp => (x_upd_ne (by omega)).trans (q45 p hp)⟩
  show _ = if 6 * i + r = x then -1 else q_la Q i r
  by_cases e : 6 * i + r = x
  · rw [if_pos e, show 21 + 6 * i + r = 21 + x by omega, x_upd_eq]
  · rw [if_neg e, x_upd_ne (by omega)]; exact q21 i r hi hr
theorem n_hourOn_2 {h : xH} {Z : xZ} {k : Nat} (hZ : x_ZB k Z) (hk : k ≤ 50000)  (hc : ¬ q_hr (z_Q Z) + 1 < z_N Z) : ∀ (m x : Nat), x ≤ 24 → 25 ≤ x + m → ∀ (M : Nat → Nat → Int32) (sd : Nat → Int64) (kp t : Nat → Int32) {g : xH}, x_ML g (z_setQ Z (q_h2 (z_R Z) (z_Q Z) x)) M sd kp t → x_fD h g → x_Rn m_X8_hourOn 94 [some (.ref 372), some (.int (nI x))] [] g (0, 0) (x_KV h (z_pass Z)) := by
  have hB : x_HB (z_N Z) (z_R Z) (z_D Z) (z_P Z) (z_F Z) := hZ.1.hb
  have hQ : x_QB (z_N Z) (z_R Z) (z_P Z) (z_Q Z) := hZ.2.1.1
  obtain ⟨⟨b1, b2, b3, b4⟩, b5, b6, b7⟩ := id hB
  obtain ⟨u1, u2, u3, u4, u5, u6, u7, u8, u9⟩ := id hQ
  have bT : (z_T Z).1 ≤ 30 := hZ.2.2.1.1
  have bs : z_s Z < 2 ^ 31 := hZ.2.2.2.2.1
  have bX : (z_X Z).1 ≤ 240 := hZ.2.2.2.2.2.1.1
  have bXc : ∀ i, i < (z_X Z).1 → (z_X Z).2 i < 256 := hZ.2.2.2.2.2.1.2
  have bS : (z_S Z).1 ≤ 6 := hZ.2.2.2.2.2.2.1.1
  have bSr : ∀ i, i < (z_S Z).1 → (z_S Z).2.1 i < z_R Z := hZ.2.2.2.2.2.2.1.2
  have bB : (z_B Z).1 ≤ 20 := hZ.2.2.2.2.2.2.2.1
  have bBr : ∀ i, i < (z_B Z).1 → (z_B Z).2.1 i < z_R Z := hZ.2.2.2.2.2.2.2.2
  intro m
  induction m with
  | zero => intro x h1 h3; omega
  | succ m ih =>
    intro x h1 h3 M sd kp t g C FD
    obtain ⟨HM, HZ⟩ := id C
    have mo : g[372]? = some (x_mob (z_X Z).1 (z_f Z) (z_N Z) (z_R Z) (z_D Z) (z_P Z) (z_T Z).1 (z_s Z) (z_S Z).1 (z_B Z).1 t) := HM.1
    have m8 : g[381]? = some (x_ia 51 (M 8)) := HM.2 8 (by decide)
    have hq : x_stq (M 8) (z_R Z) (z_P Z) (q_h2 (z_R Z) (z_Q Z) x) := HZ.2.2.2.2.2.2.2.1
    obtain ⟨q0, q1, q2, q3, q9, q15, q21, q45⟩ := id hq
    have q21z : ∀ r9, r9 < z_R Z → M 8 (21 + r9) = q_la (q_h2 (z_R Z) (z_Q Z) x) 0 r9 := fun r9 hr9 => q21 0 r9 (by decide) hr9
    refine R_iload_n dX8_hourOn_94 rfl ?_
    refine R_bipush (nI 24) dX8_hourOn_95 rfl ?_
    refine R_geN 116 dX8_hourOn_97 rfl (by omega) (by omega) (fun c_97 => ?_) (fun c_97 => ?_)
    · have e : x = 24 := by omega
      refine R_aload_n dX8_hourOn_116 rfl ?_
      refine R_get dX8_hourOn_117 f_X8_38 mo rfl ?_
      refine R_iconst (nI 0) dX8_hourOn_120 rfl ?_
      refine R_iconst (nI 0) dX8_hourOn_121 rfl ?_
      refine R_iast dX8_hourOn_122 m8 (by omega) rfl (by omega) (by decide) ?_
      have m8 : (List.set g 381 (x_ia 51 (upd (M 8) 0 (nI 0))))[381]? = some (x_ia 51 (upd (M 8) 0 (nI 0))) := List.getElem?_set_self (List.getElem?_eq_some_iff.mp m8).1
      have mo : (List.set g 381 (x_ia 51 (upd (M 8) 0 (nI 0))))[372]? = _ := (List.getElem?_set_ne (by omega)).trans mo
      refine R_aload_n dX8_hourOn_123 rfl ?_
      refine R_get dX8_hourOn_124 f_X8_38 mo rfl ?_
      refine R_iconst (nI 1) dX8_hourOn_127 rfl ?_
      refine R_dup2 dX8_hourOn_128 rfl rfl ?_
      refine R_iald dX8_hourOn_129 m8 rfl (by omega) (by decide) ?_
      rw [show (upd (M 8) 0 (nI 0)) 1 = nI (q_nt (z_Q Z)) from (x_upd_ne (by decide)).trans q1]
      refine R_iconst (nI 1) dX8_hourOn_130 rfl ?_
      refine R_iaddN dX8_hourOn_131 ?_
      refine R_iast dX8_hourOn_132 m8 (by omega) rfl (by omega) (by decide) ?_
      rw [List.set_set]
      have hq2 : x_stq (upd (upd (M 8) 0 (nI 0)) 1 (nI (q_nt (z_Q Z) + 1))) (z_R Z) (z_P Z) (s_pass (z_N Z) (z_R Z) (z_Q Z)) := by
        rw [s_pass, if_neg hc]
        exact ((hq.hr b2 0).nt b2 (q_nt (z_Q Z) + 1)).eq rfl rfl rfl (fun _ _ => rfl) (fun r hr => by show (if r < z_R Z then false else _) = false; rw [if_pos hr]) (fun _ _ => rfl) (fun i j hi hj => by show (if 6 * i + j < x then -1 else _) = -1; rw [if_pos (by omega)]) (fun _ _ => rfl)
      have C2 := C.st hq2
      have FD2 := FD.set (c := 381) (x_ia 51 (upd (upd (M 8) 0 (nI 0)) 1 (nI (q_nt (z_Q Z) + 1)))) (by omega)
      exact R_vret dX8_hourOn_133 rfl rfl rfl ⟨rfl, C2.cl, FD2⟩
    · refine R_aload_n dX8_hourOn_100 rfl ?_
      refine R_get dX8_hourOn_101 f_X8_38 mo rfl ?_
      refine R_bipush (nI 21) dX8_hourOn_104 rfl ?_
      refine R_iload_n dX8_hourOn_106 rfl ?_
      refine R_iaddN dX8_hourOn_107 ?_
      refine R_iconst (-1) dX8_hourOn_108 rfl ?_
      refine R_iast dX8_hourOn_109 m8 (by omega) rfl (by omega) (by decide) ?_
      have hq2 : x_stq (upd (M 8) (21 + x) (-1)) (z_R Z) (z_P Z) (q_h2 (z_R Z) (z_Q Z) (x + 1)) := (hq.clr b2 (by omega)).eq rfl rfl rfl (fun _ _ => rfl) (fun _ _ => rfl) (fun _ _ => rfl) (fun i j _ _ => by
        show (if 6 * i + j = x then -1 else if 6 * i + j < x then -1 else _) = if 6 * i + j < x + 1 then -1 else _
        by_cases e : 6 * i + j = x
        · rw [if_pos e, if_pos (by omega)]
        · by_cases e2 : 6 * i + j < x
          · rw [if_neg e, if_pos e2, if_pos (by omega)]
          · rw [if_neg e, if_neg e2, if_neg (by omega)]) (fun _ _ => rfl)
      have C2 := C.st hq2
      have FD2 := FD.set (c := 381) (x_ia 51 (upd (M 8) (21 + x) (-1))) (by omega)
      refine R_iincN dX8_hourOn_110 rfl (Nat.le_of_ble_eq_true rfl) rfl ?_
      refine R_goto 94 dX8_hourOn_113 rfl ?_
      exact ih (x + 1) (by omega) (by omega) _ _ _ _ C2 FD2
theorem n_hourOn_1 {h : xH} {Z : xZ} {k : Nat} (hZ : x_ZB k Z) (hk : k ≤ 50000)  (hc : ¬ q_hr (z_Q Z) + 1 < z_N Z) : ∀ (m r : Nat), r ≤ z_R Z → z_R Z + 1 ≤ r + m → ∀ (M : Nat → Nat → Int32) (sd : Nat → Int64) (kp t : Nat → Int32) {g : xH}, x_ML g (z_setQ Z (q_h1 (z_Q Z) r)) M sd kp t → x_fD h g → x_Rn m_X8_hourOn 26 [some (.ref 372), some (.int (nI r))] [] g (0, 0) (x_KV h (z_pass Z)) := by
  have hB : x_HB (z_N Z) (z_R Z) (z_D Z) (z_P Z) (z_F Z) := hZ.1.hb
  have hQ : x_QB (z_N Z) (z_R Z) (z_P Z) (z_Q Z) := hZ.2.1.1
  obtain ⟨⟨b1, b2, b3, b4⟩, b5, b6, b7⟩ := id hB
  obtain ⟨u1, u2, u3, u4, u5, u6, u7, u8, u9⟩ := id hQ
  have bT : (z_T Z).1 ≤ 30 := hZ.2.2.1.1
  have bs : z_s Z < 2 ^ 31 := hZ.2.2.2.2.1
  have bX : (z_X Z).1 ≤ 240 := hZ.2.2.2.2.2.1.1
  have bXc : ∀ i, i < (z_X Z).1 → (z_X Z).2 i < 256 := hZ.2.2.2.2.2.1.2
  have bS : (z_S Z).1 ≤ 6 := hZ.2.2.2.2.2.2.1.1
  have bSr : ∀ i, i < (z_S Z).1 → (z_S Z).2.1 i < z_R Z := hZ.2.2.2.2.2.2.1.2
  have bB : (z_B Z).1 ≤ 20 := hZ.2.2.2.2.2.2.2.1
  have bBr : ∀ i, i < (z_B Z).1 → (z_B Z).2.1 i < z_R Z := hZ.2.2.2.2.2.2.2.2
  intro m
  induction m with
  | zero => intro r h1 h3; omega
  | succ m ih =>
    intro r h1 h3 M sd kp t g C FD
    obtain ⟨HM, HZ⟩ := id C
    have mo : g[372]? = some (x_mob (z_X Z).1 (z_f Z) (z_N Z) (z_R Z) (z_D Z) (z_P Z) (z_T Z).1 (z_s Z) (z_S Z).1 (z_B Z).1 t) := HM.1
    have m8 : g[381]? = some (x_ia 51 (M 8)) := HM.2 8 (by decide)
    have hq : x_stq (M 8) (z_R Z) (z_P Z) (q_h1 (z_Q Z) r) := HZ.2.2.2.2.2.2.2.1
    obtain ⟨q0, q1, q2, q3, q9, q15, q21, q45⟩ := id hq
    have q21z : ∀ r9, r9 < z_R Z → M 8 (21 + r9) = q_la (q_h1 (z_Q Z) r) 0 r9 := fun r9 hr9 => q21 0 r9 (by decide) hr9
    refine R_iload_n dX8_hourOn_26 rfl ?_
    refine R_aload_n dX8_hourOn_27 rfl ?_
    refine R_get dX8_hourOn_28 f_X8_82 mo rfl ?_
    refine R_geN 92 dX8_hourOn_31 rfl (by omega) (by omega) (fun c_31 => ?_) (fun c_31 => ?_)
    · refine R_iconst (nI 0) dX8_hourOn_92 rfl ?_
      refine R_istore_n dX8_hourOn_93 (Nat.le_of_ble_eq_true rfl) rfl ?_
      have e : r = z_R Z := by omega
      subst e
      have C2 : x_ML g (z_setQ Z (q_h2 (z_R Z) (z_Q Z) 0)) M sd kp t := by
        refine ⟨HM, HZ.1, HZ.2.1, HZ.2.2.1, HZ.2.2.2.1, HZ.2.2.2.2.1, HZ.2.2.2.2.2.1, HZ.2.2.2.2.2.2.1, ?_, HZ.2.2.2.2.2.2.2.2⟩
        exact hq.eq rfl rfl rfl (fun _ _ => rfl) (fun _ _ => rfl) (fun _ _ => rfl) (fun _ _ _ _ => rfl) (fun _ _ => rfl)
      exact n_hourOn_2 hZ hk hc 25 0 (by omega) (by omega) M sd kp t C2 FD
    · have hr : r < z_R Z := by omega
      have eow : q_ow (q_h1 (z_Q Z) r) r = q_ow (z_Q Z) r := if_neg (by omega)
      refine R_aload_n dX8_hourOn_34 rfl ?_
      refine R_get dX8_hourOn_35 f_X8_38 mo rfl ?_
      refine R_bipush (nI 15) dX8_hourOn_38 rfl ?_
      refine R_iload_n dX8_hourOn_40 rfl ?_
      refine R_iaddN dX8_hourOn_41 ?_
      refine R_aload_n dX8_hourOn_42 rfl ?_
      refine R_get dX8_hourOn_43 f_X8_38 mo rfl ?_
      refine R_bipush (nI 21) dX8_hourOn_46 rfl ?_
      refine R_iload_n dX8_hourOn_48 rfl ?_
      refine R_iaddN dX8_hourOn_49 ?_
      refine R_iald dX8_hourOn_50 m8 rfl (by omega) (by decide) ?_
      rw [q21z r (by omega)]
      refine R_iflt 66 dX8_hourOn_51 rfl (fun c_51 => ?_) (fun c_51 => ?_)
      · have ev : q_ow (q_h1 (z_Q Z) r) r = (s_will (z_Q Z) r 0) := by rw [eow, s_will, if_pos ((s_la_lt (u9 0 r (by decide) hr)).mp c_51)]
        refine R_aload_n dX8_hourOn_66 rfl ?_
        refine R_get dX8_hourOn_67 f_X8_38 mo rfl ?_
        refine R_bipush (nI 15) dX8_hourOn_70 rfl ?_
        refine R_iload_n dX8_hourOn_72 rfl ?_
        refine R_iaddN dX8_hourOn_73 ?_
        refine R_iald dX8_hourOn_74 m8 rfl (by omega) (by decide) ?_
        rw [q15 r (by omega)]
        refine R_iast dX8_hourOn_75 m8 (by omega) rfl (by omega) (by decide) ?_
        rw [ev]
        have m8b : (List.set g 381 (x_ia 51 (upd (M 8) (15 + r) (s_will (z_Q Z) r 0))))[381]? = some (x_ia 51 (upd (M 8) (15 + r) (s_will (z_Q Z) r 0))) := List.getElem?_set_self (List.getElem?_eq_some_iff.mp m8).1
        have m8 := m8b
        have mo : (List.set g 381 (x_ia 51 (upd (M 8) (15 + r) (s_will (z_Q Z) r 0))))[372]? = _ := (List.getElem?_set_ne (by omega)).trans mo
        refine R_aload_n dX8_hourOn_76 rfl ?_
        refine R_get dX8_hourOn_77 f_X8_38 mo rfl ?_
        refine R_bipush (nI 9) dX8_hourOn_80 rfl ?_
        refine R_iload_n dX8_hourOn_82 rfl ?_
        refine R_iaddN dX8_hourOn_83 ?_
        refine R_iconst (nI 0) dX8_hourOn_84 rfl ?_
        refine R_iast dX8_hourOn_85 m8 (by omega) rfl (by omega) (by decide) ?_
        rw [List.set_set]
        have hq2 : x_stq (upd (upd (M 8) (15 + r) (s_will (z_Q Z) r 0)) (9 + r) (x_b false)) (z_R Z) (z_P Z) (q_h1 (z_Q Z) (r + 1)) := ((hq.ow b2 hr (s_will (z_Q Z) r 0)).ou b2 hr false).eq rfl rfl rfl (fun _ _ => rfl) (fun j _ => by
          show (if j = r then false else if j < r then false else _) = if j < r + 1 then false else _
          by_cases e : j = r
          · rw [if_pos e, if_pos (by omega)]
          · by_cases e2 : j < r
            · rw [if_neg e, if_pos e2, if_pos (by omega)]
            · rw [if_neg e, if_neg e2, if_neg (by omega)]) (fun j _ => by
          show (if j = r then (s_will (z_Q Z) r 0) else if j < r then _ else _) = if j < r + 1 then _ else _
          by_cases e : j = r
          · subst e; rw [if_pos rfl, if_pos (by omega)]
          · by_cases e2 : j < r
            · rw [if_neg e, if_pos e2, if_pos (by omega)]
            · rw [if_neg e, if_neg e2, if_neg (by omega)]) (fun _ _ _ _ => rfl) (fun _ _ => rfl)
        have C2 := C.st hq2
        have FD2 := FD.set (c := 381) (x_ia 51 (upd (upd (M 8) (15 + r) (s_will (z_Q Z) r 0)) (9 + r) (x_b false))) (by omega)
        refine R_iincN dX8_hourOn_86 rfl (Nat.le_of_ble_eq_true rfl) rfl ?_
        refine R_goto 26 dX8_hourOn_89 rfl ?_
        exact ih (r + 1) (by omega) (by omega) _ _ _ _ C2 FD2
      · have ev : q_la (q_h1 (z_Q Z) r) 0 r = (s_will (z_Q Z) r 0) := by rw [s_will, if_neg (fun z => c_51 ((s_la_lt (u9 0 r (by decide) hr)).mpr z))]; rfl
        refine R_aload_n dX8_hourOn_54 rfl ?_
        refine R_get dX8_hourOn_55 f_X8_38 mo rfl ?_
        refine R_bipush (nI 21) dX8_hourOn_58 rfl ?_
        refine R_iload_n dX8_hourOn_60 rfl ?_
        refine R_iaddN dX8_hourOn_61 ?_
        refine R_iald dX8_hourOn_62 m8 rfl (by omega) (by decide) ?_
        rw [q21z r (by omega)]
        refine R_goto 75 dX8_hourOn_63 rfl ?_
        refine R_iast dX8_hourOn_75 m8 (by omega) rfl (by omega) (by decide) ?_
        rw [ev]
        have m8b : (List.set g 381 (x_ia 51 (upd (M 8) (15 + r) (s_will (z_Q Z) r 0))))[381]? = some (x_ia 51 (upd (M 8) (15 + r) (s_will (z_Q Z) r 0))) := List.getElem?_set_self (List.getElem?_eq_some_iff.mp m8).1
        have m8 := m8b
        have mo : (List.set g 381 (x_ia 51 (upd (M 8) (15 + r) (s_will (z_Q Z) r 0))))[372]? = _ := (List.getElem?_set_ne (by omega)).trans mo
        refine R_aload_n dX8_hourOn_76 rfl ?_
        refine R_get dX8_hourOn_77 f_X8_38 mo rfl ?_
        refine R_bipush (nI 9) dX8_hourOn_80 rfl ?_
        refine R_iload_n dX8_hourOn_82 rfl ?_
        refine R_iaddN dX8_hourOn_83 ?_
        refine R_iconst (nI 0) dX8_hourOn_84 rfl ?_
        refine R_iast dX8_hourOn_85 m8 (by omega) rfl (by omega) (by decide) ?_
        rw [List.set_set]
        have hq2 : x_stq (upd (upd (M 8) (15 + r) (s_will (z_Q Z) r 0)) (9 + r) (x_b false)) (z_R Z) (z_P Z) (q_h1 (z_Q Z) (r + 1)) := ((hq.ow b2 hr (s_will (z_Q Z) r 0)).ou b2 hr false).eq rfl rfl rfl (fun _ _ => rfl) (fun j _ => by
          show (if j = r then false else if j < r then false else _) = if j < r + 1 then false else _
          by_cases e : j = r
          · rw [if_pos e, if_pos (by omega)]
          · by_cases e2 : j < r
            · rw [if_neg e, if_pos e2, if_pos (by omega)]
            · rw [if_neg e, if_neg e2, if_neg (by omega)]) (fun j _ => by
          show (if j = r then (s_will (z_Q Z) r 0) else if j < r then _ else _) = if j < r + 1 then _ else _
          by_cases e : j = r
          · subst e; rw [if_pos rfl, if_pos (by omega)]
          · by_cases e2 : j < r
            · rw [if_neg e, if_pos e2, if_pos (by omega)]
            · rw [if_neg e, if_neg e2, if_neg (by omega)]) (fun _ _ _ _ => rfl) (fun _ _ => rfl)
        have C2 := C.st hq2
        have FD2 := FD.set (c := 381) (x_ia 51 (upd (upd (M 8) (15 + r) (s_will (z_Q Z) r 0)) (9 + r) (x_b false))) (by omega)
        refine R_iincN dX8_hourOn_86 rfl (Nat.le_of_ble_eq_true rfl) rfl ?_
        refine R_goto 26 dX8_hourOn_89 rfl ?_
        exact ih (r + 1) (by omega) (by omega) _ _ _ _ C2 FD2
theorem n_hourOn {h : xH} {Z : xZ} {k : Nat} {M : Nat → Nat → Int32} {sd : Nat → Int64} {kp t : Nat → Int32} (C : x_ML h Z M sd kp t) (hZ : x_ZB k Z) (hk : k ≤ 50000) : x_Met m_X8_hourOn [.ref 372] h (x_KV h (z_pass Z)) := by
  obtain ⟨HM, HZ⟩ := id C
  have mo : h[372]? = some (x_mob (z_X Z).1 (z_f Z) (z_N Z) (z_R Z) (z_D Z) (z_P Z) (z_T Z).1 (z_s Z) (z_S Z).1 (z_B Z).1 t) := HM.1
  have m8 : h[381]? = some (x_ia 51 (M 8)) := HM.2 8 (by decide)
  obtain ⟨w1, w2, w3, w4, w5, w6, w7, hq, wt, wi, wk, ws, wb, wx⟩ := id HZ
  obtain ⟨q0, q1, q2, q3, q9, q15, q21, q45⟩ := id hq
  have q21z : ∀ r9, r9 < z_R Z → M 8 (21 + r9) = q_la (z_Q Z) 0 r9 := fun r9 hr9 => q21 0 r9 (by decide) hr9
  have hB : x_HB (z_N Z) (z_R Z) (z_D Z) (z_P Z) (z_F Z) := hZ.1.hb
  have hQ : x_QB (z_N Z) (z_R Z) (z_P Z) (z_Q Z) := hZ.2.1.1
  obtain ⟨⟨b1, b2, b3, b4⟩, b5, b6, b7⟩ := id hB
  obtain ⟨u1, u2, u3, u4, u5, u6, u7, u8, u9⟩ := id hQ
  have bT : (z_T Z).1 ≤ 30 := hZ.2.2.1.1
  have bs : z_s Z < 2 ^ 31 := hZ.2.2.2.2.1
  have bX : (z_X Z).1 ≤ 240 := hZ.2.2.2.2.2.1.1
  have bXc : ∀ i, i < (z_X Z).1 → (z_X Z).2 i < 256 := hZ.2.2.2.2.2.1.2
  have bS : (z_S Z).1 ≤ 6 := hZ.2.2.2.2.2.2.1.1
  have bSr : ∀ i, i < (z_S Z).1 → (z_S Z).2.1 i < z_R Z := hZ.2.2.2.2.2.2.1.2
  have bB : (z_B Z).1 ≤ 20 := hZ.2.2.2.2.2.2.2.1
  have bBr : ∀ i, i < (z_B Z).1 → (z_B Z).2.1 i < z_R Z := hZ.2.2.2.2.2.2.2.2
  refine x_Met.of (lo := [some (.ref 372), none]) (by decide) rfl rfl rfl ?_
  refine R_aload_n dX8_hourOn_0 rfl ?_
  refine R_get dX8_hourOn_1 f_X8_38 mo rfl ?_
  refine R_iconst (nI 0) dX8_hourOn_4 rfl ?_
  refine R_dup2 dX8_hourOn_5 rfl rfl ?_
  refine R_iald dX8_hourOn_6 m8 rfl (by omega) (by decide) ?_
  rw [q0]
  refine R_iconst (nI 1) dX8_hourOn_7 rfl ?_
  refine R_iaddN dX8_hourOn_8 ?_
  refine R_iast dX8_hourOn_9 m8 (by omega) rfl (by omega) (by decide) ?_
  have hq2 : x_stq (upd (M 8) 0 (nI (q_hr (z_Q Z) + 1))) (z_R Z) (z_P Z) (q_h1 (z_Q Z) 0) := (hq.hr b2 (q_hr (z_Q Z) + 1)).eq rfl rfl rfl (fun _ _ => rfl) (fun _ _ => rfl) (fun _ _ => rfl) (fun _ _ _ _ => rfl) (fun _ _ => rfl)
  have C2 := C.st hq2
  have FD2 := (x_fD.rf h).set (c := 381) (x_ia 51 (upd (M 8) 0 (nI (q_hr (z_Q Z) + 1)))) (by omega)
  have m8b : (List.set h 381 (x_ia 51 (upd (M 8) 0 (nI (q_hr (z_Q Z) + 1)))))[381]? = some (x_ia 51 (upd (M 8) 0 (nI (q_hr (z_Q Z) + 1)))) := List.getElem?_set_self (List.getElem?_eq_some_iff.mp m8).1
  have m8 := m8b
  have mo : (List.set h 381 (x_ia 51 (upd (M 8) 0 (nI (q_hr (z_Q Z) + 1)))))[372]? = _ := (List.getElem?_set_ne (by omega)).trans mo
  refine R_aload_n dX8_hourOn_10 rfl ?_
  refine R_get dX8_hourOn_11 f_X8_38 mo rfl ?_
  refine R_iconst (nI 0) dX8_hourOn_14 rfl ?_
  refine R_iald dX8_hourOn_15 m8 rfl (by omega) (by decide) ?_
  rw [show (upd (M 8) 0 (nI (q_hr (z_Q Z) + 1))) 0 = nI (q_hr (z_Q Z) + 1) from x_upd_eq]
  refine R_aload_n dX8_hourOn_16 rfl ?_
  refine R_get dX8_hourOn_17 f_X8_154 mo rfl ?_
  refine R_geN 24 dX8_hourOn_20 rfl (by omega) (by omega) (fun c_20 => ?_) (fun c_20 => ?_)
  · refine R_iconst (nI 0) dX8_hourOn_24 rfl ?_
    refine R_istore_n dX8_hourOn_25 (Nat.le_of_ble_eq_true rfl) rfl ?_
    exact n_hourOn_1 hZ hk (by omega) (z_R Z + 1) 0 (by omega) (by omega) _ sd kp t C2 FD2
  · have C3 : x_ML (List.set h 381 (x_ia 51 (upd (M 8) 0 (nI (q_hr (z_Q Z) + 1))))) (z_pass Z) (s_arr M 8 (upd (M 8) 0 (nI (q_hr (z_Q Z) + 1)))) sd kp t := by
      have hq3 : x_stq (upd (M 8) 0 (nI (q_hr (z_Q Z) + 1))) (z_R Z) (z_P Z) (s_pass (z_N Z) (z_R Z) (z_Q Z)) := by
        rw [s_pass, if_pos c_20]
        exact hq.hr b2 (q_hr (z_Q Z) + 1)
      exact C.st hq3
    exact R_vret dX8_hourOn_23 rfl rfl rfl ⟨rfl, C3.cl, FD2⟩
