/-! THE CLASS's calls that only look -/
theorem x_tout {x : Int32} {n : Nat} (h : x_has x n = false) : x.toInt < 0 ∨ (n : Int) - 1 < x.toInt ∨ 2 ^ 31 ≤ n := by
  by_cases hn : 2 ^ 31 ≤ n
  · exact Or.inr (Or.inr hn)
  · have h := of_decide_eq_false h
    by_cases c : x < 0
    · exact Or.inl (Int32.lt_iff_toInt_lt.mp c)
    · refine Or.inr (Or.inl ?_)
      have c2 : nI n ≤ x := Classical.byContradiction (fun z => h ⟨c, z⟩)
      have := Int32.le_iff_toInt_le.mp c2
      rw [nI_toInt (by omega)] at this
      omega
def z_tab (n : Nat) (x : Int32) (f : Nat → Int32) (e : Int32) : Int32 := if x_has x n then f (i_n x) else e
theorem z_tab_t {n k : Nat} {f : Nat → Int32} {e : Int32} (hk : k < n) (hn : n < 2 ^ 31) : z_tab n (nI k) f e = f k := by rw [z_tab, if_pos (x_has_nI hk hn), i_n_nI (by omega)]
theorem z_tab_f {n : Nat} {x : Int32} {f : Nat → Int32} {e : Int32} (h : x_has x n = false) : z_tab n x f e = e := by rw [z_tab, if_neg (by rw [h]; decide)]
def z_toldN (Z : xZ) : Nat → Int32
  | 0 => nI (z_N Z)
  | 1 => nI (z_R Z)
  | 2 => nI (z_D Z)
  | 3 => nI (z_P Z)
  | 4 => nI (z_X Z).1
  | 5 => nI (q_hr (z_Q Z))
  | 6 => nI (q_nt (z_Q Z))
  | 7 => nI (q_sy (z_Q Z))
  | 8 => s_set (z_R Z) (s_lit (z_Q Z) (q_hr (z_Q Z)))
  | 9 => s_set (z_R Z) (s_sure (z_Q Z))
  | 10 => (s_hold (z_R Z) (z_Q Z) (z_P Z)).1
  | 11 => nI (z_S Z).1
  | 12 => nI (z_B Z).1
  | 13 => nI (z_T Z).1
  | _ => 0
def z_told (Z : xZ) (x : Int32) : Int32 := z_tab 14 x (z_toldN Z) (-1000000002)
def z_roomN (Z : xZ) (r : Nat) : Nat → Int32
  | 0 => nI (q_bu (z_Q Z) r)
  | 1 => x_b (q_ou (z_Q Z) r)
  | 2 => q_ow (z_Q Z) r
  | 3 => q_la (z_Q Z) 0 r
  | 4 => s_will (z_Q Z) r 0
  | 5 => nI (s_cnt (z_P Z) (s_worth (z_F Z) (z_Q Z) r))
  | _ => 0
def z_room (Z : xZ) (r x : Int32) : Int32 := z_tab (z_R Z) r (fun i => z_tab 6 x (z_roomN Z i) (-1000000002)) (-1000000001)
def z_doorN (Z : xZ) (d : Nat) : Nat → Int32
  | 0 => nI (z_F Z 1 d)
  | 1 => nI (z_F Z 2 d)
  | 2 => nI (z_F Z 3 d)
  | _ => 0
def z_door (Z : xZ) (r x : Int32) : Int32 := z_tab (z_D Z) r (fun i => z_tab 3 x (z_doorN Z i) (-1000000002)) (-1000000001)
def z_heirN (Z : xZ) (p : Nat) : Nat → Int32
  | 0 => nI (z_F Z 4 p)
  | 1 => nI (z_F Z 5 p)
  | 2 => nI (q_pl (z_Q Z) p)
  | 3 => s_set (z_R Z) (s_heard (z_F Z) p (q_pl (z_Q Z) p))
  | 4 => s_set (z_R Z) (s_counts (z_N Z) (z_F Z) (z_Q Z) p)
  | 5 => s_set (z_R Z) (s_own (z_Q Z) (nI p))
  | _ => 0
def z_heir (Z : xZ) (r x : Int32) : Int32 := z_tab (z_P Z) r (fun i => z_tab 6 x (z_heirN Z i) (-1000000002)) (-1000000001)
def z_wall (Z : xZ) (a b : Int32) : Int32 := z_tab (z_R Z) a (fun i => z_tab (z_R Z) b (fun j => nI (z_F Z (10 + i) j)) (-1000000001)) (-1000000001)
def z_way (Z : xZ) (a b : Int32) : Int32 := z_tab (z_R Z) a (fun i => z_tab (z_R Z) b (fun j => if z_F Z (20 + i) j = 99 then -1 else nI (z_F Z (20 + i) j)) (-1000000001)) (-1000000001)
def z_reading (Z : xZ) (r x : Int32) : Int32 := z_tab (z_R Z) r (fun i => z_tab 4 x (s_will (z_Q Z) i) (-1000000002)) (-1000000001)
def z_couldBe (Z : xZ) : Int32 := s_set (z_P Z) (s_sus (z_F Z) (z_Q Z) (z_S Z).1 (z_S Z).2.1 (z_S Z).2.2)
def z_ask (Z : xZ) : Int32 := (s_best (z_P Z) (z_F Z) (z_Q Z) (s_sus (z_F Z) (z_Q Z) (z_S Z).1 (z_S Z).2.1 (z_S Z).2.2) (z_R Z)).1
def z_judge (Z : xZ) : Int32 := s_wrong (q_ow (z_Q Z)) (z_B Z).2.1 (z_B Z).2.2 (z_B Z).1 0
def z_qt (q : Int32) : Nat → Int64
  | 0 => 1000000000
  | n + 1 => z_qt q n * q.toInt64 / 100
def z_quiet (n q : Int32) : Int32 := if x_has n 61 && x_has q 101 then (z_qt q (i_n n)).toInt32 else -1000000002
theorem c_fault {h : xH} {Z : xZ} {k : Nat} (HC : x_Class h Z) (hZ : x_ZB k Z) (hk : k ≤ 50000) : x_Met m_X7_fault [.ref 2] h (x_pr (z_f Z) h) := by
  obtain ⟨hb, db, E, Wd, nx, fw, lt, A, B, C⟩ := HC
  have hd := C.hd
  obtain ⟨c1, cx, c0, cT, cH, cD, cN, cR, cI, cP, cS, cB⟩ := id C
  have hB : x_HB (z_N Z) (z_R Z) (z_D Z) (z_P Z) (z_F Z) := hZ.1.hb
  have hQ : x_QB (z_N Z) (z_R Z) (z_P Z) (z_Q Z) := hZ.2.1.1
  obtain ⟨⟨b1, b2, b3, b4⟩, b5, b6, b7⟩ := id hB
  obtain ⟨u1, u2, u3, u4, u5, u6, u7, u8, u9⟩ := id hQ
  obtain ⟨h2, g0, g1, g2, g3, g4, g5, g6, g7, g8, g9, g10, g11⟩ := id cH
  obtain ⟨h2n, n0, ⟨f1, n1, n1e⟩, n2, ⟨f3, n3, n3e⟩, n4, n5⟩ := id cN
  obtain ⟨-, hXn, hEk, hEa, htx, t0, -⟩ := id cT
  obtain ⟨⟨-, hTc, hTx, r0, r1⟩, -⟩ := id cR
  obtain ⟨-, hSn, s0, -⟩ := id cS
  obtain ⟨-, hBn, k0, -⟩ := id cB
  obtain ⟨-, p0, -⟩ := id cP
  obtain ⟨-, d0, -⟩ := id cD
  refine x_Met.of (lo := [some (.ref 2)]) (by decide) rfl rfl rfl ?_
  refine R_aload_n dX7_fault_0 rfl ?_
  refine R_get dX7_fault_1 f_X7_77 c0 rfl ?_
  exact R_iret dX7_fault_4 rfl rfl rfl x_pr.mk
theorem c_told {h : xH} {Z : xZ} {k : Nat} (HC : x_Class h Z) (hZ : x_ZB k Z) (hk : k ≤ 50000) (w : Int32) : x_Met m_X7_told [.ref 2, .int w] h (x_pr (z_told Z w) h) := by
  obtain ⟨hb, db, E, Wd, nx, fw, lt, A, B, C⟩ := HC
  have hd := C.hd
  obtain ⟨c1, cx, c0, cT, cH, cD, cN, cR, cI, cP, cS, cB⟩ := id C
  have hB : x_HB (z_N Z) (z_R Z) (z_D Z) (z_P Z) (z_F Z) := hZ.1.hb
  have hQ : x_QB (z_N Z) (z_R Z) (z_P Z) (z_Q Z) := hZ.2.1.1
  obtain ⟨⟨b1, b2, b3, b4⟩, b5, b6, b7⟩ := id hB
  obtain ⟨u1, u2, u3, u4, u5, u6, u7, u8, u9⟩ := id hQ
  obtain ⟨h2, g0, g1, g2, g3, g4, g5, g6, g7, g8, g9, g10, g11⟩ := id cH
  obtain ⟨h2n, n0, ⟨f1, n1, n1e⟩, n2, ⟨f3, n3, n3e⟩, n4, n5⟩ := id cN
  obtain ⟨-, hXn, hEk, hEa, htx, t0, -⟩ := id cT
  obtain ⟨⟨-, hTc, hTx, r0, r1⟩, -⟩ := id cR
  obtain ⟨-, hSn, s0, -⟩ := id cS
  obtain ⟨-, hBn, k0, -⟩ := id cB
  obtain ⟨-, p0, -⟩ := id cP
  obtain ⟨-, d0, -⟩ := id cD
  refine x_Met.of (lo := [some (.ref 2), some (.int w)]) (by decide) rfl rfl rfl ?_
  refine R_iload_n dX7_told_0 rfl ?_
  cases hx1 : x_has w 14 with
  | false =>
    refine R_tout 203 dX7_told_1 (by have := x_tout hx1; omega) rfl ?_
    refine R_ldc (-1000000002) dX7_told_203 k_X7_80 ?_
    exact R_iret dX7_told_205 rfl rfl rfl (x_pr.eq (by rw [z_told, z_tab_f hx1]))
  | true =>
    obtain ⟨k1, hk1, rfl⟩ := x_has_t (by decide) hx1
    have hk1 : k1 = 0 ∨ k1 = 1 ∨ k1 = 2 ∨ k1 = 3 ∨ k1 = 4 ∨ k1 = 5 ∨ k1 = 6 ∨ k1 = 7 ∨ k1 = 8 ∨ k1 = 9 ∨ k1 = 10 ∨ k1 = 11 ∨ k1 = 12 ∨ k1 = 13 := by omega
    rcases hk1 with rfl | rfl | rfl | rfl | rfl | rfl | rfl | rfl | rfl | rfl | rfl | rfl | rfl | rfl
    · refine R_tin 72 dX7_told_1 (by decide) (by decide) rfl rfl ?_
      refine R_aload_n dX7_told_72 rfl ?_
      refine R_get dX7_told_73 f_X7_19 c0 rfl ?_
      refine R_get dX7_told_76 f_X7_118 g0 rfl ?_
      exact R_iret dX7_told_79 rfl rfl rfl (x_pr.eq (by rw [z_told, z_tab_t (by decide) (by decide)]; rfl))
    · refine R_tin 80 dX7_told_1 (by decide) (by decide) rfl rfl ?_
      refine R_aload_n dX7_told_80 rfl ?_
      refine R_get dX7_told_81 f_X7_19 c0 rfl ?_
      refine R_get dX7_told_84 f_X7_121 g0 rfl ?_
      exact R_iret dX7_told_87 rfl rfl rfl (x_pr.eq (by rw [z_told, z_tab_t (by decide) (by decide)]; rfl))
    · refine R_tin 88 dX7_told_1 (by decide) (by decide) rfl rfl ?_
      refine R_aload_n dX7_told_88 rfl ?_
      refine R_get dX7_told_89 f_X7_19 c0 rfl ?_
      refine R_get dX7_told_92 f_X7_124 g0 rfl ?_
      exact R_iret dX7_told_95 rfl rfl rfl (x_pr.eq (by rw [z_told, z_tab_t (by decide) (by decide)]; rfl))
    · refine R_tin 96 dX7_told_1 (by decide) (by decide) rfl rfl ?_
      refine R_aload_n dX7_told_96 rfl ?_
      refine R_get dX7_told_97 f_X7_19 c0 rfl ?_
      refine R_get dX7_told_100 f_X7_115 g0 rfl ?_
      exact R_iret dX7_told_103 rfl rfl rfl (x_pr.eq (by rw [z_told, z_tab_t (by decide) (by decide)]; rfl))
    · refine R_tin 104 dX7_told_1 (by decide) (by decide) rfl rfl ?_
      refine R_aload_n dX7_told_104 rfl ?_
      refine R_get dX7_told_105 f_X7_10 c0 rfl ?_
      refine R_get dX7_told_108 f_X7_85 t0 rfl ?_
      exact R_iret dX7_told_111 rfl rfl rfl (x_pr.eq (by rw [z_told, z_tab_t (by decide) (by decide)]; rfl))
    · refine R_tin 112 dX7_told_1 (by decide) (by decide) rfl rfl ?_
      refine R_aload_n dX7_told_112 rfl ?_
      refine R_get dX7_told_113 f_X7_29 c0 rfl ?_
      refine R_get dX7_told_116 f_X7_127 n0 rfl ?_
      exact R_iret dX7_told_119 rfl rfl rfl (x_pr.eq (by rw [z_told, z_tab_t (by decide) (by decide)]; rfl))
    · refine R_tin 120 dX7_told_1 (by decide) (by decide) rfl rfl ?_
      refine R_aload_n dX7_told_120 rfl ?_
      refine R_get dX7_told_121 f_X7_29 c0 rfl ?_
      refine R_get dX7_told_124 f_X7_130 n0 rfl ?_
      exact R_iret dX7_told_127 rfl rfl rfl (x_pr.eq (by rw [z_told, z_tab_t (by decide) (by decide)]; rfl))
    · refine R_tin 128 dX7_told_1 (by decide) (by decide) rfl rfl ?_
      refine R_aload_n dX7_told_128 rfl ?_
      refine R_get dX7_told_129 f_X7_29 c0 rfl ?_
      refine R_get dX7_told_132 f_X7_133 n0 rfl ?_
      exact R_iret dX7_told_135 rfl rfl rfl (x_pr.eq (by rw [z_told, z_tab_t (by decide) (by decide)]; rfl))
    · refine R_tin 136 dX7_told_1 (by decide) (by decide) rfl rfl ?_
      refine R_aload_n dX7_told_136 rfl ?_
      refine R_get dX7_told_137 f_X7_29 c0 rfl ?_
      refine R_aload_n dX7_told_140 rfl ?_
      refine R_get dX7_told_141 f_X7_19 c0 rfl ?_
      refine R_aload_n dX7_told_144 rfl ?_
      refine R_get dX7_told_145 f_X7_29 c0 rfl ?_
      refine R_get dX7_told_148 f_X7_127 n0 rfl ?_
      refine R_cV2p (N := m_X2_litAt) dX7_told_151 l_X7_136 i_X2_litAt n0 (c_Night_litAt cH hB cN hQ u1) rfl rfl ?_
      exact R_iret dX7_told_154 rfl rfl rfl (x_pr.eq (by rw [z_told, z_tab_t (by decide) (by decide)]; rfl))
    · refine R_tin 155 dX7_told_1 (by decide) (by decide) rfl rfl ?_
      refine R_aload_n dX7_told_155 rfl ?_
      refine R_get dX7_told_156 f_X7_29 c0 rfl ?_
      refine R_aload_n dX7_told_159 rfl ?_
      refine R_get dX7_told_160 f_X7_19 c0 rfl ?_
      refine R_cV1p (N := m_X2_sure) dX7_told_163 l_X7_140 i_X2_sure n0 (c_Night_sure cH hB cN hQ) rfl rfl ?_
      exact R_iret dX7_told_166 rfl rfl rfl (x_pr.eq (by rw [z_told, z_tab_t (by decide) (by decide)]; rfl))
    · refine R_tin 167 dX7_told_1 (by decide) (by decide) rfl rfl ?_
      refine R_aload_n dX7_told_167 rfl ?_
      refine R_get dX7_told_168 f_X7_29 c0 rfl ?_
      refine R_aload_n dX7_told_171 rfl ?_
      refine R_get dX7_told_172 f_X7_19 c0 rfl ?_
      refine R_cV1p (N := m_X2_holder) dX7_told_175 l_X7_144 i_X2_holder n0 (c_Night_holder cH hB cN hQ) rfl rfl ?_
      exact R_iret dX7_told_178 rfl rfl rfl (x_pr.eq (by rw [z_told, z_tab_t (by decide) (by decide)]; rfl))
    · refine R_tin 179 dX7_told_1 (by decide) (by decide) rfl rfl ?_
      refine R_aload_n dX7_told_179 rfl ?_
      refine R_get dX7_told_180 f_X7_62 c0 rfl ?_
      refine R_get dX7_told_183 f_X7_111 s0 rfl ?_
      exact R_iret dX7_told_186 rfl rfl rfl (x_pr.eq (by rw [z_told, z_tab_t (by decide) (by decide)]; rfl))
    · refine R_tin 187 dX7_told_1 (by decide) (by decide) rfl rfl ?_
      refine R_aload_n dX7_told_187 rfl ?_
      refine R_get dX7_told_188 f_X7_69 c0 rfl ?_
      refine R_get dX7_told_191 f_X7_114 k0 rfl ?_
      exact R_iret dX7_told_194 rfl rfl rfl (x_pr.eq (by rw [z_told, z_tab_t (by decide) (by decide)]; rfl))
    · refine R_tin 195 dX7_told_1 (by decide) (by decide) rfl rfl ?_
      refine R_aload_n dX7_told_195 rfl ?_
      refine R_get dX7_told_196 f_X7_36 c0 rfl ?_
      refine R_get dX7_told_199 f_X7_147 r0 rfl ?_
      exact R_iret dX7_told_202 rfl rfl rfl (x_pr.eq (by rw [z_told, z_tab_t (by decide) (by decide)]; rfl))
theorem c_room {h : xH} {Z : xZ} {k : Nat} (HC : x_Class h Z) (hZ : x_ZB k Z) (hk : k ≤ 50000) (r w : Int32) : x_Met m_X7_room [.ref 2, .int r, .int w] h (x_pr (z_room Z r w) h) := by
  obtain ⟨hb, db, E, Wd, nx, fw, lt, A, B, C⟩ := HC
  have hd := C.hd
  obtain ⟨c1, cx, c0, cT, cH, cD, cN, cR, cI, cP, cS, cB⟩ := id C
  have hB : x_HB (z_N Z) (z_R Z) (z_D Z) (z_P Z) (z_F Z) := hZ.1.hb
  have hQ : x_QB (z_N Z) (z_R Z) (z_P Z) (z_Q Z) := hZ.2.1.1
  obtain ⟨⟨b1, b2, b3, b4⟩, b5, b6, b7⟩ := id hB
  obtain ⟨u1, u2, u3, u4, u5, u6, u7, u8, u9⟩ := id hQ
  obtain ⟨h2, g0, g1, g2, g3, g4, g5, g6, g7, g8, g9, g10, g11⟩ := id cH
  obtain ⟨h2n, n0, ⟨f1, n1, n1e⟩, n2, ⟨f3, n3, n3e⟩, n4, n5⟩ := id cN
  obtain ⟨-, hXn, hEk, hEa, htx, t0, -⟩ := id cT
  obtain ⟨⟨-, hTc, hTx, r0, r1⟩, -⟩ := id cR
  obtain ⟨-, hSn, s0, -⟩ := id cS
  obtain ⟨-, hBn, k0, -⟩ := id cB
  obtain ⟨-, p0, -⟩ := id cP
  obtain ⟨-, d0, -⟩ := id cD
  refine x_Met.of (lo := [some (.ref 2), some (.int r), some (.int w)]) (by decide) rfl rfl rfl ?_
  refine R_aload_n dX7_room_0 rfl ?_
  refine R_get dX7_room_1 f_X7_19 c0 rfl ?_
  refine R_iload_n dX7_room_4 rfl ?_
  refine R_cV1p (N := m_X1_hasRoom) dX7_room_5 l_X7_148 i_X1_hasRoom g0 (c_House_hasRoom cH _) rfl rfl ?_
  refine R_ifneB 14 dX7_room_8 rfl (fun c_8 => ?_) (fun c_8 => ?_)
  · obtain ⟨i, hi, rfl⟩ := x_has_t (by omega) c_8
    refine R_iload_n dX7_room_14 rfl ?_
    cases hx15 : x_has w 6 with
    | false =>
      refine R_tout 124 dX7_room_15 (by have := x_tout hx15; omega) rfl ?_
      refine R_ldc (-1000000002) dX7_room_124 k_X7_80 ?_
      exact R_iret dX7_room_126 rfl rfl rfl (x_pr.eq (by rw [z_room, z_tab_t hi (by omega), z_tab_f hx15]))
    | true =>
      obtain ⟨k15, hk15, rfl⟩ := x_has_t (by decide) hx15
      have hk15 : k15 = 0 ∨ k15 = 1 ∨ k15 = 2 ∨ k15 = 3 ∨ k15 = 4 ∨ k15 = 5 := by omega
      rcases hk15 with rfl | rfl | rfl | rfl | rfl | rfl
      · refine R_tin 52 dX7_room_15 (by decide) (by decide) rfl rfl ?_
        refine R_aload_n dX7_room_52 rfl ?_
        refine R_get dX7_room_53 f_X7_29 c0 rfl ?_
        refine R_get dX7_room_56 f_X7_152 n0 rfl ?_
        refine R_iload_n dX7_room_59 rfl ?_
        refine R_iald dX7_room_60 n1 rfl (by omega) (by decide) ?_
        rw [n1e i (by omega)]
        exact R_iret dX7_room_61 rfl rfl rfl (x_pr.eq (by rw [z_room, z_tab_t hi (by omega), z_tab_t (by decide) (by decide)]; rfl))
      · refine R_tin 62 dX7_room_15 (by decide) (by decide) rfl rfl ?_
        refine R_aload_n dX7_room_62 rfl ?_
        refine R_get dX7_room_63 f_X7_29 c0 rfl ?_
        refine R_iload_n dX7_room_66 rfl ?_
        refine R_cV1p (N := m_X2_isOut) dX7_room_67 l_X7_155 i_X2_isOut n0 (c_Night_isOut cN (r := i) (by omega)) rfl rfl ?_
        refine R_ifeqB 77 dX7_room_70 rfl (fun c_70 => ?_) (fun c_70 => ?_)
        · refine R_iconst (nI 0) dX7_room_77 rfl ?_
          exact R_iret dX7_room_78 rfl rfl rfl (x_pr.eq (by rw [z_room, z_tab_t hi (by omega), z_tab_t (by decide) (by decide)]; show _ = x_b (q_ou (z_Q Z) i); rw [c_70]; rfl))
        · refine R_iconst (nI 1) dX7_room_73 rfl ?_
          refine R_goto 78 dX7_room_74 rfl ?_
          exact R_iret dX7_room_78 rfl rfl rfl (x_pr.eq (by rw [z_room, z_tab_t hi (by omega), z_tab_t (by decide) (by decide)]; show _ = x_b (q_ou (z_Q Z) i); rw [c_70]; rfl))
      · refine R_tin 79 dX7_room_15 (by decide) (by decide) rfl rfl ?_
        refine R_aload_n dX7_room_79 rfl ?_
        refine R_get dX7_room_80 f_X7_29 c0 rfl ?_
        refine R_get dX7_room_83 f_X7_158 n0 rfl ?_
        refine R_iload_n dX7_room_86 rfl ?_
        refine R_iald dX7_room_87 n2 rfl (by omega) (by decide) ?_
        exact R_iret dX7_room_88 rfl rfl rfl (x_pr.eq (by rw [z_room, z_tab_t hi (by omega), z_tab_t (by decide) (by decide)]; rfl))
      · refine R_tin 89 dX7_room_15 (by decide) (by decide) rfl rfl ?_
        refine R_aload_n dX7_room_89 rfl ?_
        refine R_get dX7_room_90 f_X7_29 c0 rfl ?_
        refine R_get dX7_room_93 f_X7_161 n0 rfl ?_
        refine R_iconst (nI 0) dX7_room_96 rfl ?_
        refine R_aald dX7_room_97 n4 (by omega) (fun _ => rfl) rfl rfl (by omega) (by decide) (if_pos (by omega)) ?_
        refine R_iload_n dX7_room_98 rfl ?_
        refine R_iald dX7_room_99 (n5 _ (by omega)) rfl (by omega) (by decide) ?_
        exact R_iret dX7_room_100 rfl rfl rfl (x_pr.eq (by rw [z_room, z_tab_t hi (by omega), z_tab_t (by decide) (by decide)]; rfl))
      · refine R_tin 101 dX7_room_15 (by decide) (by decide) rfl rfl ?_
        refine R_aload_n dX7_room_101 rfl ?_
        refine R_get dX7_room_102 f_X7_29 c0 rfl ?_
        refine R_iload_n dX7_room_105 rfl ?_
        refine R_iconst (nI 0) dX7_room_106 rfl ?_
        refine R_cV2p (N := m_X2_will) dX7_room_107 l_X7_165 i_X2_will n0 (c_Night_will cN (r := i) (by omega) (by omega)) rfl rfl ?_
        exact R_iret dX7_room_110 rfl rfl rfl (x_pr.eq (by rw [z_room, z_tab_t hi (by omega), z_tab_t (by decide) (by decide)]; rfl))
      · refine R_tin 111 dX7_room_15 (by decide) (by decide) rfl rfl ?_
        refine R_aload_n dX7_room_111 rfl ?_
        refine R_get dX7_room_112 f_X7_29 c0 rfl ?_
        refine R_aload_n dX7_room_115 rfl ?_
        refine R_get dX7_room_116 f_X7_19 c0 rfl ?_
        refine R_iload_n dX7_room_119 rfl ?_
        refine R_cV2p (N := m_X2_worth) dX7_room_120 l_X7_169 i_X2_worth n0 (c_Night_worth cH hB cN hQ hi) rfl rfl ?_
        exact R_iret dX7_room_123 rfl rfl rfl (x_pr.eq (by rw [z_room, z_tab_t hi (by omega), z_tab_t (by decide) (by decide)]; rfl))
  · refine R_ldc (-1000000001) dX7_room_11 k_X7_151 ?_
    exact R_iret dX7_room_13 rfl rfl rfl (x_pr.eq (by rw [z_room, z_tab_f c_8]))
theorem c_door {h : xH} {Z : xZ} {k : Nat} (HC : x_Class h Z) (hZ : x_ZB k Z) (hk : k ≤ 50000) (r w : Int32) : x_Met m_X7_door [.ref 2, .int r, .int w] h (x_pr (z_door Z r w) h) := by
  obtain ⟨hb, db, E, Wd, nx, fw, lt, A, B, C⟩ := HC
  have hd := C.hd
  obtain ⟨c1, cx, c0, cT, cH, cD, cN, cR, cI, cP, cS, cB⟩ := id C
  have hB : x_HB (z_N Z) (z_R Z) (z_D Z) (z_P Z) (z_F Z) := hZ.1.hb
  have hQ : x_QB (z_N Z) (z_R Z) (z_P Z) (z_Q Z) := hZ.2.1.1
  obtain ⟨⟨b1, b2, b3, b4⟩, b5, b6, b7⟩ := id hB
  obtain ⟨u1, u2, u3, u4, u5, u6, u7, u8, u9⟩ := id hQ
  obtain ⟨h2, g0, g1, g2, g3, g4, g5, g6, g7, g8, g9, g10, g11⟩ := id cH
  obtain ⟨h2n, n0, ⟨f1, n1, n1e⟩, n2, ⟨f3, n3, n3e⟩, n4, n5⟩ := id cN
  obtain ⟨-, hXn, hEk, hEa, htx, t0, -⟩ := id cT
  obtain ⟨⟨-, hTc, hTx, r0, r1⟩, -⟩ := id cR
  obtain ⟨-, hSn, s0, -⟩ := id cS
  obtain ⟨-, hBn, k0, -⟩ := id cB
  obtain ⟨-, p0, -⟩ := id cP
  obtain ⟨-, d0, -⟩ := id cD
  refine x_Met.of (lo := [some (.ref 2), some (.int r), some (.int w)]) (by decide) rfl rfl rfl ?_
  refine R_aload_n dX7_door_0 rfl ?_
  refine R_get dX7_door_1 f_X7_19 c0 rfl ?_
  refine R_iload_n dX7_door_4 rfl ?_
  refine R_cV1p (N := m_X1_hasDoor) dX7_door_5 l_X7_172 i_X1_hasDoor g0 (c_House_hasDoor cH _) rfl rfl ?_
  refine R_ifneB 14 dX7_door_8 rfl (fun c_8 => ?_) (fun c_8 => ?_)
  · obtain ⟨i, hi, rfl⟩ := x_has_t (by omega) c_8
    refine R_iload_n dX7_door_14 rfl ?_
    cases hx15 : x_has w 3 with
    | false =>
      refine R_tout 70 dX7_door_15 (by have := x_tout hx15; omega) rfl ?_
      refine R_ldc (-1000000002) dX7_door_70 k_X7_80 ?_
      exact R_iret dX7_door_72 rfl rfl rfl (x_pr.eq (by rw [z_door, z_tab_t hi (by omega), z_tab_f hx15]))
    | true =>
      obtain ⟨k15, hk15, rfl⟩ := x_has_t (by decide) hx15
      have hk15 : k15 = 0 ∨ k15 = 1 ∨ k15 = 2 := by omega
      rcases hk15 with rfl | rfl | rfl
      · refine R_tin 40 dX7_door_15 (by decide) (by decide) rfl rfl ?_
        refine R_aload_n dX7_door_40 rfl ?_
        refine R_get dX7_door_41 f_X7_19 c0 rfl ?_
        refine R_get dX7_door_44 f_X7_175 g0 rfl ?_
        refine R_iload_n dX7_door_47 rfl ?_
        refine R_iald dX7_door_48 g2 rfl (by omega) (by decide) ?_
        exact R_iret dX7_door_49 rfl rfl rfl (x_pr.eq (by rw [z_door, z_tab_t hi (by omega), z_tab_t (by decide) (by decide)]; rfl))
      · refine R_tin 50 dX7_door_15 (by decide) (by decide) rfl rfl ?_
        refine R_aload_n dX7_door_50 rfl ?_
        refine R_get dX7_door_51 f_X7_19 c0 rfl ?_
        refine R_get dX7_door_54 f_X7_178 g0 rfl ?_
        refine R_iload_n dX7_door_57 rfl ?_
        refine R_iald dX7_door_58 g3 rfl (by omega) (by decide) ?_
        exact R_iret dX7_door_59 rfl rfl rfl (x_pr.eq (by rw [z_door, z_tab_t hi (by omega), z_tab_t (by decide) (by decide)]; rfl))
      · refine R_tin 60 dX7_door_15 (by decide) (by decide) rfl rfl ?_
        refine R_aload_n dX7_door_60 rfl ?_
        refine R_get dX7_door_61 f_X7_19 c0 rfl ?_
        refine R_get dX7_door_64 f_X7_181 g0 rfl ?_
        refine R_iload_n dX7_door_67 rfl ?_
        refine R_iald dX7_door_68 g4 rfl (by omega) (by decide) ?_
        exact R_iret dX7_door_69 rfl rfl rfl (x_pr.eq (by rw [z_door, z_tab_t hi (by omega), z_tab_t (by decide) (by decide)]; rfl))
  · refine R_ldc (-1000000001) dX7_door_11 k_X7_151 ?_
    exact R_iret dX7_door_13 rfl rfl rfl (x_pr.eq (by rw [z_door, z_tab_f c_8]))
theorem c_heir {h : xH} {Z : xZ} {k : Nat} (HC : x_Class h Z) (hZ : x_ZB k Z) (hk : k ≤ 50000) (r w : Int32) : x_Met m_X7_heir [.ref 2, .int r, .int w] h (x_pr (z_heir Z r w) h) := by
  obtain ⟨hb, db, E, Wd, nx, fw, lt, A, B, C⟩ := HC
  have hd := C.hd
  obtain ⟨c1, cx, c0, cT, cH, cD, cN, cR, cI, cP, cS, cB⟩ := id C
  have hB : x_HB (z_N Z) (z_R Z) (z_D Z) (z_P Z) (z_F Z) := hZ.1.hb
  have hQ : x_QB (z_N Z) (z_R Z) (z_P Z) (z_Q Z) := hZ.2.1.1
  obtain ⟨⟨b1, b2, b3, b4⟩, b5, b6, b7⟩ := id hB
  obtain ⟨u1, u2, u3, u4, u5, u6, u7, u8, u9⟩ := id hQ
  obtain ⟨h2, g0, g1, g2, g3, g4, g5, g6, g7, g8, g9, g10, g11⟩ := id cH
  obtain ⟨h2n, n0, ⟨f1, n1, n1e⟩, n2, ⟨f3, n3, n3e⟩, n4, n5⟩ := id cN
  obtain ⟨-, hXn, hEk, hEa, htx, t0, -⟩ := id cT
  obtain ⟨⟨-, hTc, hTx, r0, r1⟩, -⟩ := id cR
  obtain ⟨-, hSn, s0, -⟩ := id cS
  obtain ⟨-, hBn, k0, -⟩ := id cB
  obtain ⟨-, p0, -⟩ := id cP
  obtain ⟨-, d0, -⟩ := id cD
  refine x_Met.of (lo := [some (.ref 2), some (.int r), some (.int w)]) (by decide) rfl rfl rfl ?_
  refine R_aload_n dX7_heir_0 rfl ?_
  refine R_get dX7_heir_1 f_X7_19 c0 rfl ?_
  refine R_iload_n dX7_heir_4 rfl ?_
  refine R_cV1p (N := m_X1_hasHeir) dX7_heir_5 l_X7_184 i_X1_hasHeir g0 (c_House_hasHeir cH _) rfl rfl ?_
  refine R_ifneB 14 dX7_heir_8 rfl (fun c_8 => ?_) (fun c_8 => ?_)
  · obtain ⟨i, hi, rfl⟩ := x_has_t (by omega) c_8
    refine R_iload_n dX7_heir_14 rfl ?_
    cases hx15 : x_has w 6 with
    | false =>
      refine R_tout 121 dX7_heir_15 (by have := x_tout hx15; omega) rfl ?_
      refine R_ldc (-1000000002) dX7_heir_121 k_X7_80 ?_
      exact R_iret dX7_heir_123 rfl rfl rfl (x_pr.eq (by rw [z_heir, z_tab_t hi (by omega), z_tab_f hx15]))
    | true =>
      obtain ⟨k15, hk15, rfl⟩ := x_has_t (by decide) hx15
      have hk15 : k15 = 0 ∨ k15 = 1 ∨ k15 = 2 ∨ k15 = 3 ∨ k15 = 4 ∨ k15 = 5 := by omega
      rcases hk15 with rfl | rfl | rfl | rfl | rfl | rfl
      · refine R_tin 52 dX7_heir_15 (by decide) (by decide) rfl rfl ?_
        refine R_aload_n dX7_heir_52 rfl ?_
        refine R_get dX7_heir_53 f_X7_19 c0 rfl ?_
        refine R_get dX7_heir_56 f_X7_187 g0 rfl ?_
        refine R_iload_n dX7_heir_59 rfl ?_
        refine R_iald dX7_heir_60 g5 rfl (by omega) (by decide) ?_
        exact R_iret dX7_heir_61 rfl rfl rfl (x_pr.eq (by rw [z_heir, z_tab_t hi (by omega), z_tab_t (by decide) (by decide)]; rfl))
      · refine R_tin 62 dX7_heir_15 (by decide) (by decide) rfl rfl ?_
        refine R_aload_n dX7_heir_62 rfl ?_
        refine R_get dX7_heir_63 f_X7_19 c0 rfl ?_
        refine R_get dX7_heir_66 f_X7_190 g0 rfl ?_
        refine R_iload_n dX7_heir_69 rfl ?_
        refine R_iald dX7_heir_70 g6 rfl (by omega) (by decide) ?_
        exact R_iret dX7_heir_71 rfl rfl rfl (x_pr.eq (by rw [z_heir, z_tab_t hi (by omega), z_tab_t (by decide) (by decide)]; rfl))
      · refine R_tin 72 dX7_heir_15 (by decide) (by decide) rfl rfl ?_
        refine R_aload_n dX7_heir_72 rfl ?_
        refine R_get dX7_heir_73 f_X7_29 c0 rfl ?_
        refine R_get dX7_heir_76 f_X7_193 n0 rfl ?_
        refine R_iload_n dX7_heir_79 rfl ?_
        refine R_iald dX7_heir_80 n3 rfl (by omega) (by decide) ?_
        rw [n3e i (by omega)]
        exact R_iret dX7_heir_81 rfl rfl rfl (x_pr.eq (by rw [z_heir, z_tab_t hi (by omega), z_tab_t (by decide) (by decide)]; rfl))
      · refine R_tin 82 dX7_heir_15 (by decide) (by decide) rfl rfl ?_
        refine R_aload_n dX7_heir_82 rfl ?_
        refine R_get dX7_heir_83 f_X7_29 c0 rfl ?_
        refine R_aload_n dX7_heir_86 rfl ?_
        refine R_get dX7_heir_87 f_X7_19 c0 rfl ?_
        refine R_iload_n dX7_heir_90 rfl ?_
        refine R_cV2p (N := m_X2_hears) dX7_heir_91 l_X7_196 i_X2_hears n0 (c_Night_hears cH hB cN hQ hi) rfl rfl ?_
        exact R_iret dX7_heir_94 rfl rfl rfl (x_pr.eq (by rw [z_heir, z_tab_t hi (by omega), z_tab_t (by decide) (by decide)]; rfl))
      · refine R_tin 95 dX7_heir_15 (by decide) (by decide) rfl rfl ?_
        refine R_aload_n dX7_heir_95 rfl ?_
        refine R_get dX7_heir_96 f_X7_29 c0 rfl ?_
        refine R_aload_n dX7_heir_99 rfl ?_
        refine R_get dX7_heir_100 f_X7_19 c0 rfl ?_
        refine R_iload_n dX7_heir_103 rfl ?_
        refine R_cV2p (N := m_X2_counts) dX7_heir_104 l_X7_199 i_X2_counts n0 (c_Night_counts cH hB cN hQ hi) rfl rfl ?_
        exact R_iret dX7_heir_107 rfl rfl rfl (x_pr.eq (by rw [z_heir, z_tab_t hi (by omega), z_tab_t (by decide) (by decide)]; rfl))
      · refine R_tin 108 dX7_heir_15 (by decide) (by decide) rfl rfl ?_
        refine R_aload_n dX7_heir_108 rfl ?_
        refine R_get dX7_heir_109 f_X7_29 c0 rfl ?_
        refine R_aload_n dX7_heir_112 rfl ?_
        refine R_get dX7_heir_113 f_X7_19 c0 rfl ?_
        refine R_iload_n dX7_heir_116 rfl ?_
        refine R_cV2p (N := m_X2_holdings) dX7_heir_117 l_X7_202 i_X2_holdings n0 (c_Night_holdings cH hB cN hQ _) rfl rfl ?_
        exact R_iret dX7_heir_120 rfl rfl rfl (x_pr.eq (by rw [z_heir, z_tab_t hi (by omega), z_tab_t (by decide) (by decide)]; rfl))
  · refine R_ldc (-1000000001) dX7_heir_11 k_X7_151 ?_
    exact R_iret dX7_heir_13 rfl rfl rfl (x_pr.eq (by rw [z_heir, z_tab_f c_8]))
theorem c_wall {h : xH} {Z : xZ} {k : Nat} (HC : x_Class h Z) (hZ : x_ZB k Z) (hk : k ≤ 50000) (a b : Int32) : x_Met m_X7_wall [.ref 2, .int a, .int b] h (x_pr (z_wall Z a b) h) := by
  obtain ⟨hb, db, E, Wd, nx, fw, lt, A, B, C⟩ := HC
  have hd := C.hd
  obtain ⟨c1, cx, c0, cT, cH, cD, cN, cR, cI, cP, cS, cB⟩ := id C
  have hB : x_HB (z_N Z) (z_R Z) (z_D Z) (z_P Z) (z_F Z) := hZ.1.hb
  have hQ : x_QB (z_N Z) (z_R Z) (z_P Z) (z_Q Z) := hZ.2.1.1
  obtain ⟨⟨b1, b2, b3, b4⟩, b5, b6, b7⟩ := id hB
  obtain ⟨u1, u2, u3, u4, u5, u6, u7, u8, u9⟩ := id hQ
  obtain ⟨h2, g0, g1, g2, g3, g4, g5, g6, g7, g8, g9, g10, g11⟩ := id cH
  obtain ⟨h2n, n0, ⟨f1, n1, n1e⟩, n2, ⟨f3, n3, n3e⟩, n4, n5⟩ := id cN
  obtain ⟨-, hXn, hEk, hEa, htx, t0, -⟩ := id cT
  obtain ⟨⟨-, hTc, hTx, r0, r1⟩, -⟩ := id cR
  obtain ⟨-, hSn, s0, -⟩ := id cS
  obtain ⟨-, hBn, k0, -⟩ := id cB
  obtain ⟨-, p0, -⟩ := id cP
  obtain ⟨-, d0, -⟩ := id cD
  refine x_Met.of (lo := [some (.ref 2), some (.int a), some (.int b)]) (by decide) rfl rfl rfl ?_
  refine R_aload_n dX7_wall_0 rfl ?_
  refine R_get dX7_wall_1 f_X7_19 c0 rfl ?_
  refine R_iload_n dX7_wall_4 rfl ?_
  refine R_cV1p (N := m_X1_hasRoom) dX7_wall_5 l_X7_148 i_X1_hasRoom g0 (c_House_hasRoom cH _) rfl rfl ?_
  refine R_ifeqB 22 dX7_wall_8 rfl (fun c_8 => ?_) (fun c_8 => ?_)
  · refine R_ldc (-1000000001) dX7_wall_22 k_X7_151 ?_
    exact R_iret dX7_wall_24 rfl rfl rfl (x_pr.eq (by rw [z_wall, z_tab_f c_8]))
  · obtain ⟨i, hi, rfl⟩ := x_has_t (by omega) c_8
    refine R_aload_n dX7_wall_11 rfl ?_
    refine R_get dX7_wall_12 f_X7_19 c0 rfl ?_
    refine R_iload_n dX7_wall_15 rfl ?_
    refine R_cV1p (N := m_X1_hasRoom) dX7_wall_16 l_X7_148 i_X1_hasRoom g0 (c_House_hasRoom cH _) rfl rfl ?_
    refine R_ifneB 25 dX7_wall_19 rfl (fun c_19 => ?_) (fun c_19 => ?_)
    · obtain ⟨j, hj, rfl⟩ := x_has_t (by omega) c_19
      refine R_aload_n dX7_wall_25 rfl ?_
      refine R_get dX7_wall_26 f_X7_19 c0 rfl ?_
      refine R_get dX7_wall_29 f_X7_256 g0 rfl ?_
      refine R_iload_n dX7_wall_32 rfl ?_
      refine R_aald dX7_wall_33 g8 (by omega) (fun _ => rfl) rfl rfl (by omega) (by decide) (if_pos (by omega)) ?_
      refine R_iload_n dX7_wall_34 rfl ?_
      refine R_iald dX7_wall_35 (g9 _ (by omega)) rfl (by omega) (by decide) ?_
      exact R_iret dX7_wall_36 rfl rfl rfl (x_pr.eq (by rw [z_wall, z_tab_t hi (by omega), z_tab_t hj (by omega)]))
    · refine R_ldc (-1000000001) dX7_wall_22 k_X7_151 ?_
      exact R_iret dX7_wall_24 rfl rfl rfl (x_pr.eq (by rw [z_wall, z_tab_t hi (by omega), z_tab_f c_19]))
theorem c_way {h : xH} {Z : xZ} {k : Nat} (HC : x_Class h Z) (hZ : x_ZB k Z) (hk : k ≤ 50000) (a b : Int32) : x_Met m_X7_way [.ref 2, .int a, .int b] h (x_pr (z_way Z a b) h) := by
  obtain ⟨hb, db, E, Wd, nx, fw, lt, A, B, C⟩ := HC
  have hd := C.hd
  obtain ⟨c1, cx, c0, cT, cH, cD, cN, cR, cI, cP, cS, cB⟩ := id C
  have hB : x_HB (z_N Z) (z_R Z) (z_D Z) (z_P Z) (z_F Z) := hZ.1.hb
  have hQ : x_QB (z_N Z) (z_R Z) (z_P Z) (z_Q Z) := hZ.2.1.1
  obtain ⟨⟨b1, b2, b3, b4⟩, b5, b6, b7⟩ := id hB
  obtain ⟨u1, u2, u3, u4, u5, u6, u7, u8, u9⟩ := id hQ
  obtain ⟨h2, g0, g1, g2, g3, g4, g5, g6, g7, g8, g9, g10, g11⟩ := id cH
  obtain ⟨h2n, n0, ⟨f1, n1, n1e⟩, n2, ⟨f3, n3, n3e⟩, n4, n5⟩ := id cN
  obtain ⟨-, hXn, hEk, hEa, htx, t0, -⟩ := id cT
  obtain ⟨⟨-, hTc, hTx, r0, r1⟩, -⟩ := id cR
  obtain ⟨-, hSn, s0, -⟩ := id cS
  obtain ⟨-, hBn, k0, -⟩ := id cB
  obtain ⟨-, p0, -⟩ := id cP
  obtain ⟨-, d0, -⟩ := id cD
  refine x_Met.of (lo := [some (.ref 2), some (.int a), some (.int b), none]) (by decide) rfl rfl rfl ?_
  refine R_aload_n dX7_way_0 rfl ?_
  refine R_get dX7_way_1 f_X7_19 c0 rfl ?_
  refine R_iload_n dX7_way_4 rfl ?_
  refine R_cV1p (N := m_X1_hasRoom) dX7_way_5 l_X7_148 i_X1_hasRoom g0 (c_House_hasRoom cH _) rfl rfl ?_
  refine R_ifeqB 22 dX7_way_8 rfl (fun c_8 => ?_) (fun c_8 => ?_)
  · refine R_ldc (-1000000001) dX7_way_22 k_X7_151 ?_
    exact R_iret dX7_way_24 rfl rfl rfl (x_pr.eq (by rw [z_way, z_tab_f c_8]))
  · obtain ⟨i, hi, rfl⟩ := x_has_t (by omega) c_8
    refine R_aload_n dX7_way_11 rfl ?_
    refine R_get dX7_way_12 f_X7_19 c0 rfl ?_
    refine R_iload_n dX7_way_15 rfl ?_
    refine R_cV1p (N := m_X1_hasRoom) dX7_way_16 l_X7_148 i_X1_hasRoom g0 (c_House_hasRoom cH _) rfl rfl ?_
    refine R_ifneB 25 dX7_way_19 rfl (fun c_19 => ?_) (fun c_19 => ?_)
    · obtain ⟨j, hj, rfl⟩ := x_has_t (by omega) c_19
      have w7 := b7 i j hi hj
      refine R_aload_n dX7_way_25 rfl ?_
      refine R_get dX7_way_26 f_X7_19 c0 rfl ?_
      refine R_get dX7_way_29 f_X7_259 g0 rfl ?_
      refine R_iload_n dX7_way_32 rfl ?_
      refine R_aald dX7_way_33 g10 (by omega) (fun _ => rfl) rfl rfl (by omega) (by decide) (if_pos (by omega)) ?_
      refine R_iload_n dX7_way_34 rfl ?_
      refine R_iald dX7_way_35 (g11 _ (by omega)) rfl (by omega) (by decide) ?_
      refine R_istore_n dX7_way_36 (Nat.le_of_ble_eq_true rfl) rfl ?_
      refine R_iload_n dX7_way_37 rfl ?_
      refine R_bipush (nI 99) dX7_way_38 rfl ?_
      refine R_neN 47 dX7_way_40 rfl (by omega) (by omega) (fun c_40 => ?_) (fun c_40 => ?_)
      · refine R_iload_n dX7_way_47 rfl ?_
        exact R_iret dX7_way_48 rfl rfl rfl (x_pr.eq (by rw [z_way, z_tab_t hi (by omega), z_tab_t hj (by omega), if_neg (by omega)]))
      · refine R_iconst (-1) dX7_way_43 rfl ?_
        refine R_goto 48 dX7_way_44 rfl ?_
        exact R_iret dX7_way_48 rfl rfl rfl (x_pr.eq (by rw [z_way, z_tab_t hi (by omega), z_tab_t hj (by omega), if_pos (by omega)]))
    · refine R_ldc (-1000000001) dX7_way_22 k_X7_151 ?_
      exact R_iret dX7_way_24 rfl rfl rfl (x_pr.eq (by rw [z_way, z_tab_t hi (by omega), z_tab_f c_19]))
theorem c_reading {h : xH} {Z : xZ} {k : Nat} (HC : x_Class h Z) (hZ : x_ZB k Z) (hk : k ≤ 50000) (r w : Int32) : x_Met m_X7_reading [.ref 2, .int r, .int w] h (x_pr (z_reading Z r w) h) := by
  obtain ⟨hb, db, E, Wd, nx, fw, lt, A, B, C⟩ := HC
  have hd := C.hd
  obtain ⟨c1, cx, c0, cT, cH, cD, cN, cR, cI, cP, cS, cB⟩ := id C
  have hB : x_HB (z_N Z) (z_R Z) (z_D Z) (z_P Z) (z_F Z) := hZ.1.hb
  have hQ : x_QB (z_N Z) (z_R Z) (z_P Z) (z_Q Z) := hZ.2.1.1
  obtain ⟨⟨b1, b2, b3, b4⟩, b5, b6, b7⟩ := id hB
  obtain ⟨u1, u2, u3, u4, u5, u6, u7, u8, u9⟩ := id hQ
  obtain ⟨h2, g0, g1, g2, g3, g4, g5, g6, g7, g8, g9, g10, g11⟩ := id cH
  obtain ⟨h2n, n0, ⟨f1, n1, n1e⟩, n2, ⟨f3, n3, n3e⟩, n4, n5⟩ := id cN
  obtain ⟨-, hXn, hEk, hEa, htx, t0, -⟩ := id cT
  obtain ⟨⟨-, hTc, hTx, r0, r1⟩, -⟩ := id cR
  obtain ⟨-, hSn, s0, -⟩ := id cS
  obtain ⟨-, hBn, k0, -⟩ := id cB
  obtain ⟨-, p0, -⟩ := id cP
  obtain ⟨-, d0, -⟩ := id cD
  refine x_Met.of (lo := [some (.ref 2), some (.int r), some (.int w)]) (by decide) rfl rfl rfl ?_
  refine R_aload_n dX7_reading_0 rfl ?_
  refine R_get dX7_reading_1 f_X7_19 c0 rfl ?_
  refine R_iload_n dX7_reading_4 rfl ?_
  refine R_cV1p (N := m_X1_hasRoom) dX7_reading_5 l_X7_148 i_X1_hasRoom g0 (c_House_hasRoom cH _) rfl rfl ?_
  refine R_ifneB 14 dX7_reading_8 rfl (fun c_8 => ?_) (fun c_8 => ?_)
  · obtain ⟨i, hi, rfl⟩ := x_has_t (by omega) c_8
    refine R_iload_n dX7_reading_14 rfl ?_
    refine R_iflt 23 dX7_reading_15 rfl (fun c_15 => ?_) (fun c_15 => ?_)
    · refine R_ldc (-1000000002) dX7_reading_23 k_X7_80 ?_
      exact R_iret dX7_reading_25 rfl rfl rfl (x_pr.eq (by rw [z_reading, z_tab_t hi (by omega), z_tab_f (decide_eq_false (fun z => z.1 c_15))]))
    · refine R_iload_n dX7_reading_18 rfl ?_
      refine R_iconst (nI 4) dX7_reading_19 rfl ?_
      refine R_icmplt 26 dX7_reading_20 rfl (fun c_20 => ?_) (fun c_20 => ?_)
      · have c4 : x_has w 4 = true := decide_eq_true ⟨c_15, by rw [Int32.not_le]; exact c_20⟩
        obtain ⟨j, hj, rfl⟩ := x_has_t (by omega) c4
        refine R_aload_n dX7_reading_26 rfl ?_
        refine R_get dX7_reading_27 f_X7_29 c0 rfl ?_
        refine R_iload_n dX7_reading_30 rfl ?_
        refine R_iload_n dX7_reading_31 rfl ?_
        refine R_cV2p (N := m_X2_will) dX7_reading_32 l_X7_165 i_X2_will n0 (c_Night_will cN (r := i) (k := j) (by omega) (by omega)) rfl rfl ?_
        exact R_iret dX7_reading_35 rfl rfl rfl (x_pr.eq (by rw [z_reading, z_tab_t hi (by omega), z_tab_t hj (by decide)]))
      · refine R_ldc (-1000000002) dX7_reading_23 k_X7_80 ?_
        exact R_iret dX7_reading_25 rfl rfl rfl (x_pr.eq (by rw [z_reading, z_tab_t hi (by omega), z_tab_f (decide_eq_false (fun z => z.2 (by rw [← Int32.not_lt]; exact c_20)))]))
  · refine R_ldc (-1000000001) dX7_reading_11 k_X7_151 ?_
    exact R_iret dX7_reading_13 rfl rfl rfl (x_pr.eq (by rw [z_reading, z_tab_f c_8]))
theorem c_couldBe {h : xH} {Z : xZ} {k : Nat} (HC : x_Class h Z) (hZ : x_ZB k Z) (hk : k ≤ 50000) : x_Met m_X7_couldBe [.ref 2] h (x_pr (z_couldBe Z) h) := by
  obtain ⟨hb, db, E, Wd, nx, fw, lt, A, B, C⟩ := HC
  have hd := C.hd
  obtain ⟨c1, cx, c0, cT, cH, cD, cN, cR, cI, cP, cS, cB⟩ := id C
  have hB : x_HB (z_N Z) (z_R Z) (z_D Z) (z_P Z) (z_F Z) := hZ.1.hb
  have hQ : x_QB (z_N Z) (z_R Z) (z_P Z) (z_Q Z) := hZ.2.1.1
  obtain ⟨⟨b1, b2, b3, b4⟩, b5, b6, b7⟩ := id hB
  obtain ⟨u1, u2, u3, u4, u5, u6, u7, u8, u9⟩ := id hQ
  obtain ⟨h2, g0, g1, g2, g3, g4, g5, g6, g7, g8, g9, g10, g11⟩ := id cH
  obtain ⟨h2n, n0, ⟨f1, n1, n1e⟩, n2, ⟨f3, n3, n3e⟩, n4, n5⟩ := id cN
  obtain ⟨-, hXn, hEk, hEa, htx, t0, -⟩ := id cT
  obtain ⟨⟨-, hTc, hTx, r0, r1⟩, -⟩ := id cR
  obtain ⟨-, hSn, s0, -⟩ := id cS
  obtain ⟨-, hBn, k0, -⟩ := id cB
  obtain ⟨-, p0, -⟩ := id cP
  obtain ⟨-, d0, -⟩ := id cD
  refine x_Met.of (lo := [some (.ref 2)]) (by decide) rfl rfl rfl ?_
  refine R_aload_n dX7_couldBe_0 rfl ?_
  refine R_get dX7_couldBe_1 f_X7_62 c0 rfl ?_
  refine R_aload_n dX7_couldBe_4 rfl ?_
  refine R_get dX7_couldBe_5 f_X7_19 c0 rfl ?_
  refine R_aload_n dX7_couldBe_8 rfl ?_
  refine R_get dX7_couldBe_9 f_X7_29 c0 rfl ?_
  refine R_cV2p (N := m_X4_suspects) dX7_couldBe_12 l_X7_282 i_X4_suspects s0 (c_Seen_suspects cS hZ.2.2.2.2.2.2.1.2 cH hB cN hQ) rfl rfl ?_
  exact R_iret dX7_couldBe_15 rfl rfl rfl x_pr.mk
theorem c_ask {h : xH} {Z : xZ} {k : Nat} (HC : x_Class h Z) (hZ : x_ZB k Z) (hk : k ≤ 50000) : x_Met m_X7_ask [.ref 2] h (x_pr (z_ask Z) h) := by
  obtain ⟨hb, db, E, Wd, nx, fw, lt, A, B, C⟩ := HC
  have hd := C.hd
  obtain ⟨c1, cx, c0, cT, cH, cD, cN, cR, cI, cP, cS, cB⟩ := id C
  have hB : x_HB (z_N Z) (z_R Z) (z_D Z) (z_P Z) (z_F Z) := hZ.1.hb
  have hQ : x_QB (z_N Z) (z_R Z) (z_P Z) (z_Q Z) := hZ.2.1.1
  obtain ⟨⟨b1, b2, b3, b4⟩, b5, b6, b7⟩ := id hB
  obtain ⟨u1, u2, u3, u4, u5, u6, u7, u8, u9⟩ := id hQ
  obtain ⟨h2, g0, g1, g2, g3, g4, g5, g6, g7, g8, g9, g10, g11⟩ := id cH
  obtain ⟨h2n, n0, ⟨f1, n1, n1e⟩, n2, ⟨f3, n3, n3e⟩, n4, n5⟩ := id cN
  obtain ⟨-, hXn, hEk, hEa, htx, t0, -⟩ := id cT
  obtain ⟨⟨-, hTc, hTx, r0, r1⟩, -⟩ := id cR
  obtain ⟨-, hSn, s0, -⟩ := id cS
  obtain ⟨-, hBn, k0, -⟩ := id cB
  obtain ⟨-, p0, -⟩ := id cP
  obtain ⟨-, d0, -⟩ := id cD
  refine x_Met.of (lo := [some (.ref 2)]) (by decide) rfl rfl rfl ?_
  refine R_aload_n dX7_ask_0 rfl ?_
  refine R_get dX7_ask_1 f_X7_62 c0 rfl ?_
  refine R_aload_n dX7_ask_4 rfl ?_
  refine R_get dX7_ask_5 f_X7_19 c0 rfl ?_
  refine R_aload_n dX7_ask_8 rfl ?_
  refine R_get dX7_ask_9 f_X7_29 c0 rfl ?_
  refine R_cV2p (N := m_X4_bestRoom) dX7_ask_12 l_X7_286 i_X4_bestRoom s0 (c_Seen_bestRoom cS hZ.2.2.2.2.2.2.1.2 cH hB cN hQ) rfl rfl ?_
  exact R_iret dX7_ask_15 rfl rfl rfl x_pr.mk
theorem c_judge {h : xH} {Z : xZ} {k : Nat} (HC : x_Class h Z) (hZ : x_ZB k Z) (hk : k ≤ 50000) : x_Met m_X7_judge [.ref 2] h (x_pr (z_judge Z) h) := by
  obtain ⟨hb, db, E, Wd, nx, fw, lt, A, B, C⟩ := HC
  have hd := C.hd
  obtain ⟨c1, cx, c0, cT, cH, cD, cN, cR, cI, cP, cS, cB⟩ := id C
  have hB : x_HB (z_N Z) (z_R Z) (z_D Z) (z_P Z) (z_F Z) := hZ.1.hb
  have hQ : x_QB (z_N Z) (z_R Z) (z_P Z) (z_Q Z) := hZ.2.1.1
  obtain ⟨⟨b1, b2, b3, b4⟩, b5, b6, b7⟩ := id hB
  obtain ⟨u1, u2, u3, u4, u5, u6, u7, u8, u9⟩ := id hQ
  obtain ⟨h2, g0, g1, g2, g3, g4, g5, g6, g7, g8, g9, g10, g11⟩ := id cH
  obtain ⟨h2n, n0, ⟨f1, n1, n1e⟩, n2, ⟨f3, n3, n3e⟩, n4, n5⟩ := id cN
  obtain ⟨-, hXn, hEk, hEa, htx, t0, -⟩ := id cT
  obtain ⟨⟨-, hTc, hTx, r0, r1⟩, -⟩ := id cR
  obtain ⟨-, hSn, s0, -⟩ := id cS
  obtain ⟨-, hBn, k0, -⟩ := id cB
  obtain ⟨-, p0, -⟩ := id cP
  obtain ⟨-, d0, -⟩ := id cD
  refine x_Met.of (lo := [some (.ref 2)]) (by decide) rfl rfl rfl ?_
  refine R_aload_n dX7_judge_0 rfl ?_
  refine R_get dX7_judge_1 f_X7_69 c0 rfl ?_
  refine R_aload_n dX7_judge_4 rfl ?_
  refine R_get dX7_judge_5 f_X7_29 c0 rfl ?_
  refine R_cV1p (N := m_X0_firstWrong) dX7_judge_8 l_X7_291 i_X0_firstWrong k0 (c_Book_firstWrong cB cN (fun i hi => by have := hZ.2.2.2.2.2.2.2.2 i hi; omega)) rfl rfl ?_
  exact R_iret dX7_judge_11 rfl rfl rfl x_pr.mk
