theorem c_Text_failIfx {h : xH} {b n : Nat} {tx : Nat → Nat} {E : xE} (HT : x_Text h b n tx E) {c : Bool} {kd pos : Nat} (hkd : kd ≤ 100) {x : Int32} (hx : x = x_b c) : x_Met m_X5_failIf [.ref b, .int x, .int (nI kd), .int (nI pos)] h (x_vd (fun h' => x_Text h' b n tx (e_failIf c kd pos E) ∧ x_f1 h h' b)) := by subst hx; exact c_Text_failIf HT hkd
theorem c_Text_num_tail {h g : xH} {b n : Nat} {tx : Nat → Nat} {E : xE} {lw hi : Nat} {hiI : Int32} (hlw : lw < 1000) (hhi : ∀ v, v < 1000 → (nI v ≤ hiI ↔ v < hi)) (HT : x_Text g b n tx (E.1, E.2.1, (s_skip tx n E.2.2) + (s_dig tx n (s_skip tx n E.2.2)))) (FR : x_f1 h g b) (v5 : Option Value) : x_Rn m_X5_readNumber 94 [some (.ref b), some (.int (nI lw)), some (.int hiI), some (.int (nI (s_skip tx n E.2.2))), some (.int (nI (s_val tx (s_skip tx n E.2.2) (min (s_dig tx n (s_skip tx n E.2.2)) 3)))), v5] [] g (0, 0) (x_ir (fun r h' => r = nI (e_num tx n lw hi E).1 ∧ x_Text h' b n tx (e_num tx n lw hi E).2 ∧ x_f1 h h' b)) := by
  obtain ⟨h2, hn, hk, hat, htx, t0, tf, t1, t1e⟩ := id HT
  dsimp only at hk hat t0
  have hv := s_val3 (tx := tx) (n := n) (f := (s_skip tx n E.2.2))
  refine R_aload_n dX5_readNumber_94 rfl ?_
  refine R_get dX5_readNumber_95 f_X5_25 t0 rfl ?_
  refine R_iload_n dX5_readNumber_98 rfl ?_
  refine R_isubN dX5_readNumber_99 (by omega) ?_
  refine R_istore dX5_readNumber_100 (Nat.le_of_ble_eq_true rfl) rfl ?_
  refine R_aload_n dX5_readNumber_102 rfl ?_
  refine R_iload dX5_readNumber_103 rfl ?_
  refine R_ifneN 112 dX5_readNumber_105 rfl (by omega) (fun c_105 => ?_) (fun c_105 => ?_)
  · refine R_iconst (nI 0) dX5_readNumber_112 rfl ?_
    refine R_iconst (nI 1) dX5_readNumber_113 rfl ?_
    refine R_iload_n dX5_readNumber_114 rfl ?_
    refine R_cV3v (N := m_X5_failIf) dX5_readNumber_115 l_X5_60 i_X5_failIf t0 (c_Text_failIfx HT (by omega) (c := decide ((s_dig tx n (s_skip tx n E.2.2)) = 0)) (x_bf (decide_eq_false (by omega)))) rfl rfl (fun h115 q_115 => ?_)
    obtain ⟨HT, FR2⟩ := q_115
    have FR := FR.trans FR2
    obtain ⟨h2, hn, hk, hat, htx, t0, tf, t1, t1e⟩ := id HT
    refine R_aload_n dX5_readNumber_118 rfl ?_
    refine R_iload dX5_readNumber_119 rfl ?_
    refine R_iconst (nI 3) dX5_readNumber_121 rfl ?_
    refine R_gtN 137 dX5_readNumber_122 rfl (by omega) (by omega) (fun c_122 => ?_) (fun c_122 => ?_)
    · refine R_iconst (nI 1) dX5_readNumber_137 rfl ?_
      refine R_goto 142 dX5_readNumber_138 rfl ?_
      refine R_iconst (nI 2) dX5_readNumber_142 rfl ?_
      refine R_iload_n dX5_readNumber_143 rfl ?_
      refine R_cV3v (N := m_X5_failIf) dX5_readNumber_144 l_X5_60 i_X5_failIf t0 (c_Text_failIfx HT (by omega) (c := decide (3 < (s_dig tx n (s_skip tx n E.2.2)) ∨ (s_val tx (s_skip tx n E.2.2) (min (s_dig tx n (s_skip tx n E.2.2)) 3)) < lw ∨ hi ≤ (s_val tx (s_skip tx n E.2.2) (min (s_dig tx n (s_skip tx n E.2.2)) 3)))) (x_bt (decide_eq_true (by omega)))) rfl rfl (fun h144 q_144 => ?_)
      obtain ⟨HT, FR2⟩ := q_144
      have FR := FR.trans FR2
      obtain ⟨h2, hn, hk, hat, htx, t0, tf, t1, t1e⟩ := id HT
      refine R_iload dX5_readNumber_147 rfl ?_
      exact R_iret dX5_readNumber_149 rfl rfl rfl ⟨_, rfl, rfl, HT, FR⟩
    · refine R_iload dX5_readNumber_125 rfl ?_
      refine R_iload_n dX5_readNumber_127 rfl ?_
      refine R_ltN 137 dX5_readNumber_128 rfl (by omega) (by omega) (fun c_128 => ?_) (fun c_128 => ?_)
      · refine R_iconst (nI 1) dX5_readNumber_137 rfl ?_
        refine R_goto 142 dX5_readNumber_138 rfl ?_
        refine R_iconst (nI 2) dX5_readNumber_142 rfl ?_
        refine R_iload_n dX5_readNumber_143 rfl ?_
        refine R_cV3v (N := m_X5_failIf) dX5_readNumber_144 l_X5_60 i_X5_failIf t0 (c_Text_failIfx HT (by omega) (c := decide (3 < (s_dig tx n (s_skip tx n E.2.2)) ∨ (s_val tx (s_skip tx n E.2.2) (min (s_dig tx n (s_skip tx n E.2.2)) 3)) < lw ∨ hi ≤ (s_val tx (s_skip tx n E.2.2) (min (s_dig tx n (s_skip tx n E.2.2)) 3)))) (x_bt (decide_eq_true (by omega)))) rfl rfl (fun h144 q_144 => ?_)
        obtain ⟨HT, FR2⟩ := q_144
        have FR := FR.trans FR2
        obtain ⟨h2, hn, hk, hat, htx, t0, tf, t1, t1e⟩ := id HT
        refine R_iload dX5_readNumber_147 rfl ?_
        exact R_iret dX5_readNumber_149 rfl rfl rfl ⟨_, rfl, rfl, HT, FR⟩
      · refine R_iload dX5_readNumber_131 rfl ?_
        refine R_iload_n dX5_readNumber_133 rfl ?_
        refine R_icmple 141 dX5_readNumber_134 rfl (fun c_134 => ?_) (fun c_134 => ?_)
        · have c_134 := (hhi _ hv).mp c_134
          refine R_iconst (nI 0) dX5_readNumber_141 rfl ?_
          refine R_iconst (nI 2) dX5_readNumber_142 rfl ?_
          refine R_iload_n dX5_readNumber_143 rfl ?_
          refine R_cV3v (N := m_X5_failIf) dX5_readNumber_144 l_X5_60 i_X5_failIf t0 (c_Text_failIfx HT (by omega) (c := decide (3 < (s_dig tx n (s_skip tx n E.2.2)) ∨ (s_val tx (s_skip tx n E.2.2) (min (s_dig tx n (s_skip tx n E.2.2)) 3)) < lw ∨ hi ≤ (s_val tx (s_skip tx n E.2.2) (min (s_dig tx n (s_skip tx n E.2.2)) 3)))) (x_bf (decide_eq_false (by omega)))) rfl rfl (fun h144 q_144 => ?_)
          obtain ⟨HT, FR2⟩ := q_144
          have FR := FR.trans FR2
          obtain ⟨h2, hn, hk, hat, htx, t0, tf, t1, t1e⟩ := id HT
          refine R_iload dX5_readNumber_147 rfl ?_
          exact R_iret dX5_readNumber_149 rfl rfl rfl ⟨_, rfl, rfl, HT, FR⟩
        · have c_134 : ¬ _ := fun z => c_134 ((hhi _ hv).mpr z)
          refine R_iconst (nI 1) dX5_readNumber_137 rfl ?_
          refine R_goto 142 dX5_readNumber_138 rfl ?_
          refine R_iconst (nI 2) dX5_readNumber_142 rfl ?_
          refine R_iload_n dX5_readNumber_143 rfl ?_
          refine R_cV3v (N := m_X5_failIf) dX5_readNumber_144 l_X5_60 i_X5_failIf t0 (c_Text_failIfx HT (by omega) (c := decide (3 < (s_dig tx n (s_skip tx n E.2.2)) ∨ (s_val tx (s_skip tx n E.2.2) (min (s_dig tx n (s_skip tx n E.2.2)) 3)) < lw ∨ hi ≤ (s_val tx (s_skip tx n E.2.2) (min (s_dig tx n (s_skip tx n E.2.2)) 3)))) (x_bt (decide_eq_true (by omega)))) rfl rfl (fun h144 q_144 => ?_)
          obtain ⟨HT, FR2⟩ := q_144
          have FR := FR.trans FR2
          obtain ⟨h2, hn, hk, hat, htx, t0, tf, t1, t1e⟩ := id HT
          refine R_iload dX5_readNumber_147 rfl ?_
          exact R_iret dX5_readNumber_149 rfl rfl rfl ⟨_, rfl, rfl, HT, FR⟩
  · refine R_iconst (nI 1) dX5_readNumber_108 rfl ?_
    refine R_goto 113 dX5_readNumber_109 rfl ?_
    refine R_iconst (nI 1) dX5_readNumber_113 rfl ?_
    refine R_iload_n dX5_readNumber_114 rfl ?_
    refine R_cV3v (N := m_X5_failIf) dX5_readNumber_115 l_X5_60 i_X5_failIf t0 (c_Text_failIfx HT (by omega) (c := decide ((s_dig tx n (s_skip tx n E.2.2)) = 0)) (x_bt (decide_eq_true (by omega)))) rfl rfl (fun h115 q_115 => ?_)
    obtain ⟨HT, FR2⟩ := q_115
    have FR := FR.trans FR2
    obtain ⟨h2, hn, hk, hat, htx, t0, tf, t1, t1e⟩ := id HT
    refine R_aload_n dX5_readNumber_118 rfl ?_
    refine R_iload dX5_readNumber_119 rfl ?_
    refine R_iconst (nI 3) dX5_readNumber_121 rfl ?_
    refine R_gtN 137 dX5_readNumber_122 rfl (by omega) (by omega) (fun c_122 => ?_) (fun c_122 => ?_)
    · refine R_iconst (nI 1) dX5_readNumber_137 rfl ?_
      refine R_goto 142 dX5_readNumber_138 rfl ?_
      refine R_iconst (nI 2) dX5_readNumber_142 rfl ?_
      refine R_iload_n dX5_readNumber_143 rfl ?_
      refine R_cV3v (N := m_X5_failIf) dX5_readNumber_144 l_X5_60 i_X5_failIf t0 (c_Text_failIfx HT (by omega) (c := decide (3 < (s_dig tx n (s_skip tx n E.2.2)) ∨ (s_val tx (s_skip tx n E.2.2) (min (s_dig tx n (s_skip tx n E.2.2)) 3)) < lw ∨ hi ≤ (s_val tx (s_skip tx n E.2.2) (min (s_dig tx n (s_skip tx n E.2.2)) 3)))) (x_bt (decide_eq_true (by omega)))) rfl rfl (fun h144 q_144 => ?_)
      obtain ⟨HT, FR2⟩ := q_144
      have FR := FR.trans FR2
      obtain ⟨h2, hn, hk, hat, htx, t0, tf, t1, t1e⟩ := id HT
      refine R_iload dX5_readNumber_147 rfl ?_
      exact R_iret dX5_readNumber_149 rfl rfl rfl ⟨_, rfl, rfl, HT, FR⟩
    · refine R_iload dX5_readNumber_125 rfl ?_
      refine R_iload_n dX5_readNumber_127 rfl ?_
      refine R_ltN 137 dX5_readNumber_128 rfl (by omega) (by omega) (fun c_128 => ?_) (fun c_128 => ?_)
      · refine R_iconst (nI 1) dX5_readNumber_137 rfl ?_
        refine R_goto 142 dX5_readNumber_138 rfl ?_
        refine R_iconst (nI 2) dX5_readNumber_142 rfl ?_
        refine R_iload_n dX5_readNumber_143 rfl ?_
        refine R_cV3v (N := m_X5_failIf) dX5_readNumber_144 l_X5_60 i_X5_failIf t0 (c_Text_failIfx HT (by omega) (c := decide (3 < (s_dig tx n (s_skip tx n E.2.2)) ∨ (s_val tx (s_skip tx n E.2.2) (min (s_dig tx n (s_skip tx n E.2.2)) 3)) < lw ∨ hi ≤ (s_val tx (s_skip tx n E.2.2) (min (s_dig tx n (s_skip tx n E.2.2)) 3)))) (x_bt (decide_eq_true (by omega)))) rfl rfl (fun h144 q_144 => ?_)
        obtain ⟨HT, FR2⟩ := q_144
        have FR := FR.trans FR2
        obtain ⟨h2, hn, hk, hat, htx, t0, tf, t1, t1e⟩ := id HT
        refine R_iload dX5_readNumber_147 rfl ?_
        exact R_iret dX5_readNumber_149 rfl rfl rfl ⟨_, rfl, rfl, HT, FR⟩
      · refine R_iload dX5_readNumber_131 rfl ?_
        refine R_iload_n dX5_readNumber_133 rfl ?_
        refine R_icmple 141 dX5_readNumber_134 rfl (fun c_134 => ?_) (fun c_134 => ?_)
        · have c_134 := (hhi _ hv).mp c_134
          refine R_iconst (nI 0) dX5_readNumber_141 rfl ?_
          refine R_iconst (nI 2) dX5_readNumber_142 rfl ?_
          refine R_iload_n dX5_readNumber_143 rfl ?_
          refine R_cV3v (N := m_X5_failIf) dX5_readNumber_144 l_X5_60 i_X5_failIf t0 (c_Text_failIfx HT (by omega) (c := decide (3 < (s_dig tx n (s_skip tx n E.2.2)) ∨ (s_val tx (s_skip tx n E.2.2) (min (s_dig tx n (s_skip tx n E.2.2)) 3)) < lw ∨ hi ≤ (s_val tx (s_skip tx n E.2.2) (min (s_dig tx n (s_skip tx n E.2.2)) 3)))) (x_bf (decide_eq_false (by omega)))) rfl rfl (fun h144 q_144 => ?_)
          obtain ⟨HT, FR2⟩ := q_144
          have FR := FR.trans FR2
          obtain ⟨h2, hn, hk, hat, htx, t0, tf, t1, t1e⟩ := id HT
          refine R_iload dX5_readNumber_147 rfl ?_
          exact R_iret dX5_readNumber_149 rfl rfl rfl ⟨_, rfl, rfl, HT, FR⟩
        · have c_134 : ¬ _ := fun z => c_134 ((hhi _ hv).mpr z)
          refine R_iconst (nI 1) dX5_readNumber_137 rfl ?_
          refine R_goto 142 dX5_readNumber_138 rfl ?_
          refine R_iconst (nI 2) dX5_readNumber_142 rfl ?_
          refine R_iload_n dX5_readNumber_143 rfl ?_
          refine R_cV3v (N := m_X5_failIf) dX5_readNumber_144 l_X5_60 i_X5_failIf t0 (c_Text_failIfx HT (by omega) (c := decide (3 < (s_dig tx n (s_skip tx n E.2.2)) ∨ (s_val tx (s_skip tx n E.2.2) (min (s_dig tx n (s_skip tx n E.2.2)) 3)) < lw ∨ hi ≤ (s_val tx (s_skip tx n E.2.2) (min (s_dig tx n (s_skip tx n E.2.2)) 3)))) (x_bt (decide_eq_true (by omega)))) rfl rfl (fun h144 q_144 => ?_)
          obtain ⟨HT, FR2⟩ := q_144
          have FR := FR.trans FR2
          obtain ⟨h2, hn, hk, hat, htx, t0, tf, t1, t1e⟩ := id HT
          refine R_iload dX5_readNumber_147 rfl ?_
          exact R_iret dX5_readNumber_149 rfl rfl rfl ⟨_, rfl, rfl, HT, FR⟩
theorem c_Text_num_loop {h : xH} {b n : Nat} {tx : Nat → Nat} {E : xE} {lw hi : Nat} {hiI : Int32} (hlw : lw < 1000) (hhi : ∀ v, v < 1000 → (nI v ≤ hiI ↔ v < hi)) (hE : E.2.2 ≤ n) (v5 : Option Value) : ∀ (k j : Nat), n + 1 ≤ (s_skip tx n E.2.2) + j + k → ∀ g : xH, x_Text g b n tx (E.1, E.2.1, (s_skip tx n E.2.2) + j) → x_f1 h g b → j + s_dig tx n ((s_skip tx n E.2.2) + j) = (s_dig tx n (s_skip tx n E.2.2)) → x_Rn m_X5_readNumber 12 [some (.ref b), some (.int (nI lw)), some (.int hiI), some (.int (nI (s_skip tx n E.2.2))), some (.int (nI (s_val tx (s_skip tx n E.2.2) (min j 3)))), v5] [] g (0, 0) (x_ir (fun r h' => r = nI (e_num tx n lw hi E).1 ∧ x_Text h' b n tx (e_num tx n lw hi E).2 ∧ x_f1 h h' b)) := by
  have hs := s_skip_le (tx := tx) hE
  intro k
  induction k with
  | zero => intro j h1 g HT FR hj; have h9 := s_dig_le (tx := tx) hs.2; omega
  | succ k ih =>
    intro j h1 g HT FR hj
    obtain ⟨h2, hn, hk, hat, htx, t0, tf, t1, t1e⟩ := id HT
    dsimp only at hk hat t0
    have h9 := s_dig_le (tx := tx) hs.2
    have lt1 : ∀ q, q < n → tx q < 2 ^ 31 := fun q hq => by have := htx q hq; omega
    refine R_aload_n dX5_readNumber_12 rfl ?_
    refine R_get dX5_readNumber_13 f_X5_25 t0 rfl ?_
    refine R_aload_n dX5_readNumber_16 rfl ?_
    refine R_get dX5_readNumber_17 f_X5_15 t0 rfl ?_
    refine R_geN 94 dX5_readNumber_20 rfl (by omega) (by omega) (fun c_20 => ?_) (fun c_20 => ?_)
    · have e0 : (s_dig tx n (s_skip tx n E.2.2)) = j := by rw [s_dig_f (fun z => by omega)] at hj; omega
      rw [← e0]
      rw [← e0] at HT
      exact c_Text_num_tail hlw hhi HT FR _
    · have lt2 := lt1 _ c_20
      refine R_aload_n dX5_readNumber_23 rfl ?_
      refine R_get dX5_readNumber_24 f_X5_9 t0 rfl ?_
      refine R_aload_n dX5_readNumber_27 rfl ?_
      refine R_get dX5_readNumber_28 f_X5_25 t0 rfl ?_
      refine R_iald dX5_readNumber_31 t1 rfl (by omega) (by decide) ?_
      rw [t1e ((s_skip tx n E.2.2) + j) (by omega)]
      refine R_bipush (nI 48) dX5_readNumber_32 rfl ?_
      refine R_ltN 94 dX5_readNumber_34 rfl (by omega) (by omega) (fun c_34 => ?_) (fun c_34 => ?_)
      · have e0 : (s_dig tx n (s_skip tx n E.2.2)) = j := by rw [s_dig_f (fun z => by omega)] at hj; omega
        rw [← e0]
        rw [← e0] at HT
        exact c_Text_num_tail hlw hhi HT FR _
      · refine R_aload_n dX5_readNumber_37 rfl ?_
        refine R_get dX5_readNumber_38 f_X5_9 t0 rfl ?_
        refine R_aload_n dX5_readNumber_41 rfl ?_
        refine R_get dX5_readNumber_42 f_X5_25 t0 rfl ?_
        refine R_iald dX5_readNumber_45 t1 rfl (by omega) (by decide) ?_
        rw [t1e ((s_skip tx n E.2.2) + j) (by omega)]
        refine R_bipush (nI 57) dX5_readNumber_46 rfl ?_
        refine R_gtN 94 dX5_readNumber_48 rfl (by omega) (by omega) (fun c_48 => ?_) (fun c_48 => ?_)
        · have e0 : (s_dig tx n (s_skip tx n E.2.2)) = j := by rw [s_dig_f (fun z => by omega)] at hj; omega
          rw [← e0]
          rw [← e0] at HT
          exact c_Text_num_tail hlw hhi HT FR _
        · refine R_aload_n dX5_readNumber_51 rfl ?_
          refine R_get dX5_readNumber_52 f_X5_25 t0 rfl ?_
          refine R_iload_n dX5_readNumber_55 rfl ?_
          refine R_isubN dX5_readNumber_56 (by omega) ?_
          refine R_iconst (nI 3) dX5_readNumber_57 rfl ?_
          refine R_geN 81 dX5_readNumber_58 rfl (by omega) (by omega) (fun c_58 => ?_) (fun c_58 => ?_)
          · refine R_aload_n dX5_readNumber_81 rfl ?_
            refine R_dup dX5_readNumber_82 rfl ?_
            refine R_get dX5_readNumber_83 f_X5_25 t0 rfl ?_
            refine R_iconst (nI 1) dX5_readNumber_86 rfl ?_
            refine R_iaddN dX5_readNumber_87 ?_
            refine R_put dX5_readNumber_88 f_X5_25 t0 (Nat.le_of_ble_eq_true rfl) (fun _ => rfl) (fun _ => rfl) ?_
            simp only [List.set_cons_succ, List.set_cons_zero]
            have HG2 := HT.obj E.1 E.2.1 ((s_skip tx n E.2.2) + (j + 1)) hk (by omega)
            refine R_goto 12 dX5_readNumber_91 rfl ?_
            rw [s_dig_t c_20 c_34 c_48, show (s_skip tx n E.2.2) + j + 1 = (s_skip tx n E.2.2) + (j + 1) from rfl] at hj
            have key := ih (j + 1) (by omega) _ HG2 (FR.set _) (by omega)
            rw [show min (j + 1) 3 = min j 3 by omega] at key
            exact key
          · refine R_iload dX5_readNumber_61 rfl ?_
            refine R_bipush (nI 10) dX5_readNumber_63 rfl ?_
            refine R_imulN dX5_readNumber_65 ?_
            refine R_aload_n dX5_readNumber_66 rfl ?_
            refine R_get dX5_readNumber_67 f_X5_9 t0 rfl ?_
            refine R_aload_n dX5_readNumber_70 rfl ?_
            refine R_get dX5_readNumber_71 f_X5_25 t0 rfl ?_
            refine R_iald dX5_readNumber_74 t1 rfl (by omega) (by decide) ?_
            rw [t1e ((s_skip tx n E.2.2) + j) (by omega)]
            refine R_iaddN dX5_readNumber_75 ?_
            refine R_bipush (nI 48) dX5_readNumber_76 rfl ?_
            refine R_isubN dX5_readNumber_78 (by omega) ?_
            refine R_istore dX5_readNumber_79 (Nat.le_of_ble_eq_true rfl) rfl ?_
            refine R_aload_n dX5_readNumber_81 rfl ?_
            refine R_dup dX5_readNumber_82 rfl ?_
            refine R_get dX5_readNumber_83 f_X5_25 t0 rfl ?_
            refine R_iconst (nI 1) dX5_readNumber_86 rfl ?_
            refine R_iaddN dX5_readNumber_87 ?_
            refine R_put dX5_readNumber_88 f_X5_25 t0 (Nat.le_of_ble_eq_true rfl) (fun _ => rfl) (fun _ => rfl) ?_
            simp only [List.set_cons_succ, List.set_cons_zero]
            have HG2 := HT.obj E.1 E.2.1 ((s_skip tx n E.2.2) + (j + 1)) hk (by omega)
            refine R_goto 12 dX5_readNumber_91 rfl ?_
            rw [s_dig_t c_20 c_34 c_48, show (s_skip tx n E.2.2) + j + 1 = (s_skip tx n E.2.2) + (j + 1) from rfl] at hj
            have key := ih (j + 1) (by omega) _ HG2 (FR.set _) (by omega)
            rw [show min (j + 1) 3 = j + 1 by omega, s_val] at key
            rw [show min j 3 = j by omega]
            exact key
theorem c_Text_num {h : xH} {b n : Nat} {tx : Nat → Nat} {E : xE} (HT : x_Text h b n tx E) {lw hi : Nat} {hiI : Int32} (hlw : lw < 1000) (hhi : ∀ v, v < 1000 → (nI v ≤ hiI ↔ v < hi)) (hE : E.2.2 ≤ n) : x_Met m_X5_readNumber [.ref b, .int (nI lw), .int hiI] h (x_ir (fun r h' => r = nI (e_num tx n lw hi E).1 ∧ x_Text h' b n tx (e_num tx n lw hi E).2 ∧ x_f1 h h' b)) := by
  obtain ⟨h2, hn, hk, hat, htx, t0, tf, t1, t1e⟩ := id HT
  refine x_Met.of (lo := [some (.ref b), some (.int (nI lw)), some (.int hiI), none, none, none]) (by decide) rfl rfl rfl ?_
  refine R_aload_n dX5_readNumber_0 rfl ?_
  refine R_cV0v (N := m_X5_skipBlanks) dX5_readNumber_1 l_X5_33 i_X5_skipBlanks t0 (c_Text_skip HT) rfl rfl (fun h1 q_1 => ?_)
  obtain ⟨HT, FR⟩ := q_1
  obtain ⟨h2, hn, hk, hat, htx, t0, tf, t1, t1e⟩ := id HT
  refine R_aload_n dX5_readNumber_4 rfl ?_
  refine R_get dX5_readNumber_5 f_X5_25 t0 rfl ?_
  refine R_istore_n dX5_readNumber_8 (Nat.le_of_ble_eq_true rfl) rfl ?_
  refine R_iconst (nI 0) dX5_readNumber_9 rfl ?_
  refine R_istore dX5_readNumber_10 (Nat.le_of_ble_eq_true rfl) rfl ?_
  have hs := s_skip_le (tx := tx) hE
  exact c_Text_num_loop hlw hhi hE none (n + 1) 0 (by omega) _ HT FR (by rw [Nat.add_zero, Nat.zero_add])
theorem c_Text_end {h : xH} {b n : Nat} {tx : Nat → Nat} {E : xE} (HT : x_Text h b n tx E) (hE : E.2.2 ≤ n) : x_Met m_X5_readEnd [.ref b] h (x_ir (fun r h' => r = x_b (decide ((e_end tx n E).1 = 0)) ∧ x_Text h' b n tx (e_end tx n E) ∧ x_f1 h h' b)) := by
  obtain ⟨h2, hn, hk, hat, htx, t0, tf, t1, t1e⟩ := id HT
  refine x_Met.of (lo := [some (.ref b)]) (by decide) rfl rfl rfl ?_
  refine R_aload_n dX5_readEnd_0 rfl ?_
  refine R_cV0v (N := m_X5_skipBlanks) dX5_readEnd_1 l_X5_33 i_X5_skipBlanks t0 (c_Text_skip HT) rfl rfl (fun h1 q_1 => ?_)
  obtain ⟨HT, FR⟩ := q_1
  obtain ⟨h2, hn, hk, hat, htx, t0, tf, t1, t1e⟩ := id HT
  unfold e_skip at hk hat t0
  dsimp only at hk hat t0
  have hs := s_skip_le (tx := tx) hE
  have lt1 : ∀ q, q < n → tx q < 2 ^ 31 := fun q hq => by have := htx q hq; omega
  refine R_aload_n dX5_readEnd_4 rfl ?_
  refine R_aload_n dX5_readEnd_5 rfl ?_
  refine R_get dX5_readEnd_6 f_X5_25 t0 rfl ?_
  refine R_aload_n dX5_readEnd_9 rfl ?_
  refine R_get dX5_readEnd_10 f_X5_15 t0 rfl ?_
  refine R_geN 30 dX5_readEnd_13 rfl (by omega) (by omega) (fun c_13 => ?_) (fun c_13 => ?_)
  · refine R_iconst (nI 1) dX5_readEnd_30 rfl ?_
    refine R_goto 35 dX5_readEnd_31 rfl ?_
    refine R_iconst (nI 1) dX5_readEnd_35 rfl ?_
    refine R_aload_n dX5_readEnd_36 rfl ?_
    refine R_get dX5_readEnd_37 f_X5_25 t0 rfl ?_
    refine R_cV3v (N := m_X5_failIf) dX5_readEnd_40 l_X5_60 i_X5_failIf t0 (c_Text_failIfx HT (by omega) (c := decide (¬ ((s_skip tx n E.2.2) < n ∧ tx (s_skip tx n E.2.2) = 59))) (x_bt (decide_eq_true (by omega)))) rfl rfl (fun h40 q_40 => ?_)
    obtain ⟨HT, FR2⟩ := q_40
    have FR := FR.trans FR2
    obtain ⟨h2, hn, hk, hat, htx, t0, tf, t1, t1e⟩ := id HT
    rw [e_failIf_at] at t0 hat
    refine R_aload_n dX5_readEnd_43 rfl ?_
    refine R_dup dX5_readEnd_44 rfl ?_
    refine R_get dX5_readEnd_45 f_X5_25 t0 rfl ?_
    refine R_iconst (nI 1) dX5_readEnd_48 rfl ?_
    refine R_iaddN dX5_readEnd_49 ?_
    refine R_put dX5_readEnd_50 f_X5_25 t0 (Nat.le_of_ble_eq_true rfl) (fun _ => rfl) (fun _ => rfl) ?_
    simp only [List.set_cons_succ, List.set_cons_zero]
    have HT := HT.obj (e_end tx n E).1 (e_end tx n E).2.1 ((s_skip tx n E.2.2) + 1) hk (by omega)
    have FR := x_f1.set (b := b) FR (.inr (5, [.ref (b + 1), .int (nI n), .int (nI ((e_end tx n E).1)), .int ((e_end tx n E).2.1), .int (nI ((s_skip tx n E.2.2) + 1))]))
    obtain ⟨h2, hn, hk, hat, htx, t0, tf, t1, t1e⟩ := id HT
    dsimp only at hk hat t0
    refine R_aload_n dX5_readEnd_53 rfl ?_
    refine R_get dX5_readEnd_54 f_X5_19 t0 rfl ?_
    refine R_ifneN 64 dX5_readEnd_57 rfl (by omega) (fun c_57 => ?_) (fun c_57 => ?_)
    · refine R_iconst (nI 0) dX5_readEnd_64 rfl ?_
      exact R_zret dX5_readEnd_65 rfl (Or.inl rfl) rfl rfl ⟨_, rfl, x_bf (decide_eq_false c_57), HT, FR⟩
    · refine R_iconst (nI 1) dX5_readEnd_60 rfl ?_
      refine R_goto 65 dX5_readEnd_61 rfl ?_
      exact R_zret dX5_readEnd_65 rfl (Or.inr rfl) rfl rfl ⟨_, rfl, x_bt (decide_eq_true c_57), HT, FR⟩
  · have lt2 := lt1 _ c_13
    refine R_aload_n dX5_readEnd_16 rfl ?_
    refine R_get dX5_readEnd_17 f_X5_9 t0 rfl ?_
    refine R_aload_n dX5_readEnd_20 rfl ?_
    refine R_get dX5_readEnd_21 f_X5_25 t0 rfl ?_
    refine R_iald dX5_readEnd_24 t1 rfl (by omega) (by decide) ?_
    rw [t1e ((s_skip tx n E.2.2)) (by omega)]
    refine R_bipush (nI 59) dX5_readEnd_25 rfl ?_
    refine R_eqN 34 dX5_readEnd_27 rfl (by omega) (by omega) (fun c_27 => ?_) (fun c_27 => ?_)
    · refine R_iconst (nI 0) dX5_readEnd_34 rfl ?_
      refine R_iconst (nI 1) dX5_readEnd_35 rfl ?_
      refine R_aload_n dX5_readEnd_36 rfl ?_
      refine R_get dX5_readEnd_37 f_X5_25 t0 rfl ?_
      refine R_cV3v (N := m_X5_failIf) dX5_readEnd_40 l_X5_60 i_X5_failIf t0 (c_Text_failIfx HT (by omega) (c := decide (¬ ((s_skip tx n E.2.2) < n ∧ tx (s_skip tx n E.2.2) = 59))) (x_bf (decide_eq_false (by omega)))) rfl rfl (fun h40 q_40 => ?_)
      obtain ⟨HT, FR2⟩ := q_40
      have FR := FR.trans FR2
      obtain ⟨h2, hn, hk, hat, htx, t0, tf, t1, t1e⟩ := id HT
      rw [e_failIf_at] at t0 hat
      refine R_aload_n dX5_readEnd_43 rfl ?_
      refine R_dup dX5_readEnd_44 rfl ?_
      refine R_get dX5_readEnd_45 f_X5_25 t0 rfl ?_
      refine R_iconst (nI 1) dX5_readEnd_48 rfl ?_
      refine R_iaddN dX5_readEnd_49 ?_
      refine R_put dX5_readEnd_50 f_X5_25 t0 (Nat.le_of_ble_eq_true rfl) (fun _ => rfl) (fun _ => rfl) ?_
      simp only [List.set_cons_succ, List.set_cons_zero]
      have HT := HT.obj (e_end tx n E).1 (e_end tx n E).2.1 ((s_skip tx n E.2.2) + 1) hk (by omega)
      have FR := x_f1.set (b := b) FR (.inr (5, [.ref (b + 1), .int (nI n), .int (nI ((e_end tx n E).1)), .int ((e_end tx n E).2.1), .int (nI ((s_skip tx n E.2.2) + 1))]))
      obtain ⟨h2, hn, hk, hat, htx, t0, tf, t1, t1e⟩ := id HT
      dsimp only at hk hat t0
      refine R_aload_n dX5_readEnd_53 rfl ?_
      refine R_get dX5_readEnd_54 f_X5_19 t0 rfl ?_
      refine R_ifneN 64 dX5_readEnd_57 rfl (by omega) (fun c_57 => ?_) (fun c_57 => ?_)
      · refine R_iconst (nI 0) dX5_readEnd_64 rfl ?_
        exact R_zret dX5_readEnd_65 rfl (Or.inl rfl) rfl rfl ⟨_, rfl, x_bf (decide_eq_false c_57), HT, FR⟩
      · refine R_iconst (nI 1) dX5_readEnd_60 rfl ?_
        refine R_goto 65 dX5_readEnd_61 rfl ?_
        exact R_zret dX5_readEnd_65 rfl (Or.inr rfl) rfl rfl ⟨_, rfl, x_bt (decide_eq_true c_57), HT, FR⟩
    · refine R_iconst (nI 1) dX5_readEnd_30 rfl ?_
      refine R_goto 35 dX5_readEnd_31 rfl ?_
      refine R_iconst (nI 1) dX5_readEnd_35 rfl ?_
      refine R_aload_n dX5_readEnd_36 rfl ?_
      refine R_get dX5_readEnd_37 f_X5_25 t0 rfl ?_
      refine R_cV3v (N := m_X5_failIf) dX5_readEnd_40 l_X5_60 i_X5_failIf t0 (c_Text_failIfx HT (by omega) (c := decide (¬ ((s_skip tx n E.2.2) < n ∧ tx (s_skip tx n E.2.2) = 59))) (x_bt (decide_eq_true (by omega)))) rfl rfl (fun h40 q_40 => ?_)
      obtain ⟨HT, FR2⟩ := q_40
      have FR := FR.trans FR2
      obtain ⟨h2, hn, hk, hat, htx, t0, tf, t1, t1e⟩ := id HT
      rw [e_failIf_at] at t0 hat
      refine R_aload_n dX5_readEnd_43 rfl ?_
      refine R_dup dX5_readEnd_44 rfl ?_
      refine R_get dX5_readEnd_45 f_X5_25 t0 rfl ?_
      refine R_iconst (nI 1) dX5_readEnd_48 rfl ?_
      refine R_iaddN dX5_readEnd_49 ?_
      refine R_put dX5_readEnd_50 f_X5_25 t0 (Nat.le_of_ble_eq_true rfl) (fun _ => rfl) (fun _ => rfl) ?_
      simp only [List.set_cons_succ, List.set_cons_zero]
      have HT := HT.obj (e_end tx n E).1 (e_end tx n E).2.1 ((s_skip tx n E.2.2) + 1) hk (by omega)
      have FR := x_f1.set (b := b) FR (.inr (5, [.ref (b + 1), .int (nI n), .int (nI ((e_end tx n E).1)), .int ((e_end tx n E).2.1), .int (nI ((s_skip tx n E.2.2) + 1))]))
      obtain ⟨h2, hn, hk, hat, htx, t0, tf, t1, t1e⟩ := id HT
      dsimp only at hk hat t0
      refine R_aload_n dX5_readEnd_53 rfl ?_
      refine R_get dX5_readEnd_54 f_X5_19 t0 rfl ?_
      refine R_ifneN 64 dX5_readEnd_57 rfl (by omega) (fun c_57 => ?_) (fun c_57 => ?_)
      · refine R_iconst (nI 0) dX5_readEnd_64 rfl ?_
        exact R_zret dX5_readEnd_65 rfl (Or.inl rfl) rfl rfl ⟨_, rfl, x_bf (decide_eq_false c_57), HT, FR⟩
      · refine R_iconst (nI 1) dX5_readEnd_60 rfl ?_
        refine R_goto 65 dX5_readEnd_61 rfl ?_
        exact R_zret dX5_readEnd_65 rfl (Or.inr rfl) rfl rfl ⟨_, rfl, x_bt (decide_eq_true c_57), HT, FR⟩
theorem c_Text_full {h : xH} {b : Nat} {tx : Nat → Nat} {E : xE} (HT : x_Text h b 240 tx E) (r : Int32) : x_Met m_X5_append [.ref b, .int r] h (x_pr (nI 0) h) := by
  obtain ⟨h2, hn, hk, hat, htx, t0, tf, t1, t1e⟩ := id HT
  refine x_Met.of (lo := [some (.ref b), some (.int r)]) (by decide) rfl rfl rfl ?_
  refine R_aload_n dX5_append_0 rfl ?_
  refine R_get dX5_append_1 f_X5_15 t0 rfl ?_
  refine R_sipush (nI 240) dX5_append_4 rfl ?_
  refine R_ltN 12 dX5_append_7 rfl (by omega) (by omega) (fun c_7 => ?_) (fun c_7 => ?_)
  · omega
  · refine R_iconst (nI 0) dX5_append_10 rfl ?_
    exact R_zret dX5_append_11 rfl (Or.inl rfl) rfl rfl x_pr.mk
theorem c_Text_append {h : xH} {b n : Nat} {tx : Nat → Nat} {E : xE} (HT : x_Text h b n tx E) (hl : n < 240) {l : Nat} (hl2 : l < 256) : x_Met m_X5_append [.ref b, .int (nI l)] h (x_ir (fun r' h' => r' = nI 1 ∧ x_Text h' b (n + 1) (s_snoc n tx l) E ∧ x_fr h h' b 2)) := by
  obtain ⟨h2, hn, hk, hat, htx, t0, tf, t1, t1e⟩ := id HT
  refine x_Met.of (lo := [some (.ref b), some (.int (nI l))]) (by decide) rfl rfl rfl ?_
  refine R_aload_n dX5_append_0 rfl ?_
  refine R_get dX5_append_1 f_X5_15 t0 rfl ?_
  refine R_sipush (nI 240) dX5_append_4 rfl ?_
  refine R_ltN 12 dX5_append_7 rfl (by omega) (by omega) (fun c_7 => ?_) (fun c_7 => ?_)
  · refine R_aload_n dX5_append_12 rfl ?_
    refine R_get dX5_append_13 f_X5_9 t0 rfl ?_
    refine R_aload_n dX5_append_16 rfl ?_
    refine R_get dX5_append_17 f_X5_15 t0 rfl ?_
    refine R_iload_n dX5_append_20 rfl ?_
    refine R_iast dX5_append_21 t1 (by omega) rfl (by omega) (by decide) ?_
    generalize hh1 : h.set (b + 1) (x_ia 240 (upd tf n (nI l))) = h1
    have t0 := (show h1[b]? = h[b]? by rw [← hh1, List.getElem?_set_ne (by omega)]).trans t0
    have t1 : h1[b + 1]? = some (x_ia 240 (upd tf n (nI l))) := by rw [← hh1]; exact List.getElem?_set_self (List.getElem?_eq_some_iff.mp t1).1
    have FR : x_fr h h1 b 2 := by rw [← hh1]; exact (x_fr.rf h b 2).set _ (by omega) (by omega)
    refine R_aload_n dX5_append_22 rfl ?_
    refine R_dup dX5_append_23 rfl ?_
    refine R_get dX5_append_24 f_X5_15 t0 rfl ?_
    refine R_iconst (nI 1) dX5_append_27 rfl ?_
    refine R_iaddN dX5_append_28 ?_
    refine R_put dX5_append_29 f_X5_15 t0 (Nat.le_of_ble_eq_true rfl) (fun _ => rfl) (fun _ => rfl) ?_
    simp only [List.set_cons_succ, List.set_cons_zero]
    generalize hh2 : h1.set b (.inr (5, [.ref (b + 1), .int (nI (n + 1)), .int (nI E.1), .int E.2.1, .int (nI E.2.2)])) = h3
    have t1 := (show h3[b + 1]? = h1[b + 1]? by rw [← hh2, List.getElem?_set_ne (by omega)]).trans t1
    have t0 : h3[b]? = some (.inr (5, [.ref (b + 1), .int (nI (n + 1)), .int (nI E.1), .int E.2.1, .int (nI E.2.2)])) := by rw [← hh2]; exact List.getElem?_set_self (List.getElem?_eq_some_iff.mp t0).1
    have FR : x_fr h h3 b 2 := by rw [← hh2]; exact FR.set _ (by omega) (by omega)
    refine R_iconst (nI 1) dX5_append_32 rfl ?_
    have a1 : ∀ i, i < n + 1 → upd tf n (nI l) i = nI (s_snoc n tx l i) := fun i hi => by
      by_cases e : i = n
      · subst e; simp [upd, s_snoc]
      · simp [upd, s_snoc, e]; exact t1e i (by omega)
    have a2 : ∀ i, i < n + 1 → s_snoc n tx l i < 256 := fun i hi => by
      by_cases e : i = n
      · subst e; simp [s_snoc]; exact hl2
      · simp [s_snoc, e]; exact htx i (by omega)
    exact R_zret dX5_append_33 rfl (Or.inr rfl) rfl rfl ⟨nI 1, rfl, rfl, ⟨h2, by omega, hk, by omega, a2, t0, _, t1, a1⟩, FR⟩
  · omega
