/-! THE MODEL's fewest: the latest hour, and all -/
def x_lst (good S : Nat → Nat → Prop) (l : Int32) : Prop := (l = -1 ∧ ∀ h r, S h r → ¬ good h r) ∨ ∃ h r, S h r ∧ good h r ∧ l = nI h ∧ ∀ h' r', S h' r' → good h' r' → h' ≤ h
theorem x_lst.yes {good S S' : Nat → Nat → Prop} {l : Int32} (_ : x_lst good S l) {t r : Nat} (hg : good t r) (hS : ∀ x y, S' x y → S x y ∨ (x = t ∧ y = r)) (hS3 : S' t r) (hle : ∀ x y, S x y → x ≤ t) : x_lst good S' (nI t) :=
  Or.inr ⟨t, r, hS3, hg, rfl, fun x y hs _ => by
    rcases hS x y hs with q | ⟨rfl, _⟩
    · exact hle x y q
    · exact Nat.le_refl _⟩
theorem x_lst.no {good S S' : Nat → Nat → Prop} {l : Int32} (h : x_lst good S l) {t r : Nat} (hg : ¬ good t r) (hS : ∀ x y, S' x y → S x y ∨ (x = t ∧ y = r)) (hS2 : ∀ x y, S x y → S' x y) : x_lst good S' l := by
  rcases h with ⟨z1, z2⟩ | ⟨x0, y0, z1, z2, z3, z4⟩
  · refine Or.inl ⟨z1, fun x y hs => ?_⟩
    rcases hS x y hs with q | ⟨rfl, rfl⟩
    · exact z2 x y q
    · exact hg
  · refine Or.inr ⟨x0, y0, hS2 _ _ z1, z2, z3, fun x y hs hgo => ?_⟩
    rcases hS x y hs with q | ⟨rfl, rfl⟩
    · exact z4 x y q hgo
    · exact absurd hgo hg
theorem x_lst.eq {good S S' : Nat → Nat → Prop} {l : Int32} (h : x_lst good S l) (hS : ∀ x y, S' x y ↔ S x y) : x_lst good S' l := by
  have e : S' = S := by funext x y; exact propext (hS x y)
  rw [e]; exact h
def v_good (Z : xZ) (p s w c u r : Nat) : Prop := z_F Z (20 + q_pl (z_Q Z) p) r ≤ u - q_hr (z_Q Z) ∧ 1 + v_go (z_F Z) (v_V Z p s (z_N Z - (u + 1))) (w ||| v_won Z p u r) (z_D Z) r = c
theorem x_fwp.at {Z : xZ} {p s : Nat} {f : Nat → Int32} {q : Nat} (H : x_fwp Z p s f q (z_R Z) 0) {u : Nat} (hq : q ≤ u) (hu : u < z_N Z) : ∀ r w, r < z_R Z → w < 64 → f (384 * (u + 1) + 64 * r + w) = nI (v_V Z p s (z_N Z - (u + 1)) r w) ∧ v_V Z p s (z_N Z - (u + 1)) r w ≤ 99 := fun r w hr hw => ⟨H.1 (u + 1) r w (by omega) (by omega) hr hw, v_V_le _ _ _ _ _ _⟩
theorem x_shr0 {x : Int32} {R : Nat} (hR : R ≤ 6) : (x >>> (nI R &&& 31)) = 0 ↔ (0 ≤ x.toInt ∧ x.toInt < 2 ^ R) := by
  have e : (x >>> (nI R &&& 31)).toInt = x.toInt / 2 ^ R := by
    have h : ∀ R, R ≤ 6 → ((nI R &&& 31).toBitVec.smod 32).toNat = R := by decide +kernel
    show (x >>> (nI R &&& 31)).toBitVec.toInt = _
    rw [Int32.toBitVec_shiftRight, BitVec.sshiftRight_eq', h R hR, BitVec.toInt_sshiftRight, Int.shiftRight_eq_div_pow]
    rfl
  rw [← Int32.toInt_inj, e]
  show x.toInt / 2 ^ R = 0 ↔ _
  have h7 : R = 0 ∨ R = 1 ∨ R = 2 ∨ R = 3 ∨ R = 4 ∨ R = 5 ∨ R = 6 := by omega
  rcases h7 with rfl | rfl | rfl | rfl | rfl | rfl | rfl <;> omega
theorem x_hasS_m {x : Int32} {R : Nat} (hR : R ≤ 6) : x_hasS x R = decide (¬ x < 0 ∧ (x >>> (nI R &&& 31)) = 0) := by
  unfold x_hasS
  apply decide_eq_decide.mpr
  rw [x_shr0 hR, x_shl1 R (by omega), Int32.lt_iff_toInt_lt, Int32.le_iff_toInt_le]
  have e : (nI (2 ^ R)).toInt = 2 ^ R := by
    have h : ∀ R, R ≤ 6 → (nI (2 ^ R)).toInt = 2 ^ R := by decide +kernel
    exact h R hR
  rw [e]
  have e0 : (0 : Int32).toInt = 0 := rfl
  rw [e0]
  omega
def v_w0 (Z : xZ) (p : Nat) : Nat := s_mask (z_R Z) (s_mine (z_Q Z) (nI (s_name (z_F Z) p 0)))
def x_fewN (Z : xZ) (p s c : Nat) (w r : Int32) : Prop := if 99 ≤ c then r = -1 else if w = nI 0 then r = nI c else if c = 0 then r = -1 else x_lst (v_good Z p s (v_w0 Z p) c) (fun x y => q_hr (z_Q Z) ≤ x ∧ x < z_N Z ∧ y < z_R Z) r
def x_fewM (Z : xZ) (p x w r : Int32) : Prop := if x_has p (z_P Z) && x_hasS x (z_R Z) then (if x_has w 2 then x_fewN Z (i_n p) (i_n x) (v_V Z (i_n p) (i_n x) (z_N Z - q_hr (z_Q Z)) (q_pl (z_Q Z) (i_n p)) (v_w0 Z (i_n p))) w r else r = -1000000002) else r = -1000000001
theorem n_lat_r {h : xH} {Z : xZ} {k : Nat} {M : Nat → Nat → Int32} {sd : Nat → Int64} {kp t : Nat → Int32} (C : x_ML h Z M sd kp t) (hZ : x_ZB k Z) (hk : k ≤ 50000) {p s w c : Nat} (hp : p < z_P Z) (hw : w < 64) (hc : c ≤ 99) (H : x_fwp Z p s (M 21) (q_hr (z_Q Z)) (z_R Z) 0) {K : Option Value → xH → Prop} {u : Nat} (hqu : q_hr (z_Q Z) ≤ u) (hu : u < z_N Z) (kk : ∀ l v7, x_lst (v_good Z p s w c) (fun x y => (q_hr (z_Q Z) ≤ x ∧ x < u ∧ y < z_R Z) ∨ (x = u ∧ y < z_R Z)) l → x_Rn m_X8_latestOf 105 [some (.ref 372), some (.int (nI p)), some (.int (nI w)), some (.int (nI c)), some (.int l), some (.int (nI u)), some (.int (nI (z_R Z))), v7] [] h (0, 0) K) : ∀ (m r : Nat), r ≤ z_R Z → z_R Z + 1 ≤ r + m → ∀ l v7, x_lst (v_good Z p s w c) (fun x y => (q_hr (z_Q Z) ≤ x ∧ x < u ∧ y < z_R Z) ∨ (x = u ∧ y < r)) l → x_Rn m_X8_latestOf 23 [some (.ref 372), some (.int (nI p)), some (.int (nI w)), some (.int (nI c)), some (.int l), some (.int (nI u)), some (.int (nI r)), v7] [] h (0, 0) K := by
  obtain ⟨HM, HZ⟩ := id C
  have mo : h[372]? = some (x_mob (z_X Z).1 (z_f Z) (z_N Z) (z_R Z) (z_D Z) (z_P Z) (z_T Z).1 (z_s Z) (z_S Z).1 (z_B Z).1 t) := HM.1
  have m7 : h[380]? = some (x_ia 36 (M 7)) := HM.2 7 (by decide)
  have m8 : h[381]? = some (x_ia 51 (M 8)) := HM.2 8 (by decide)
  have m21 : h[394]? = some (x_ia 8064 (M 21)) := HM.2 21 (by decide)
  obtain ⟨w1, w2, w3, w4, w5, w6, w7, hq, wt, wi, wk, ws, wb, wx⟩ := id HZ
  obtain ⟨q0, q1, q2, q3, q9, q15, q21, q45⟩ := id hq
  have q21z : ∀ r9, r9 < z_R Z → M 8 (21 + r9) = q_la (z_Q Z) 0 r9 := fun r9 hr9 => q21 0 r9 (by decide) hr9
  have hB : x_HB (z_N Z) (z_R Z) (z_D Z) (z_P Z) (z_F Z) := hZ.1.hb
  have hQ : x_QB (z_N Z) (z_R Z) (z_P Z) (z_Q Z) := hZ.2.1.1
  obtain ⟨⟨b1, b2, b3, b4⟩, b5, b6, b7⟩ := id hB
  obtain ⟨u1, u2, u3, u4, u5, u6, u7, u8, u9⟩ := id hQ
  have bT : (z_T Z).1 ≤ 30 := hZ.2.2.1.1
  have bs : z_s Z < 2 ^ 31 := hZ.2.2.2.2.1
  have bX : (z_X Z).1 ≤ 240 := hZ.2.2.2.2.2.1.1
  have bXc : ∀ i, i < (z_X Z).1 → (z_X Z).2 i < 256 := hZ.2.2.2.2.2.1.2
  have bS : (z_S Z).1 ≤ 6 := hZ.2.2.2.2.2.2.1.1
  have bSr : ∀ i, i < (z_S Z).1 → (z_S Z).2.1 i < z_R Z := hZ.2.2.2.2.2.2.1.2
  have bB : (z_B Z).1 ≤ 20 := hZ.2.2.2.2.2.2.2.1
  have bBr : ∀ i, i < (z_B Z).1 → (z_B Z).2.1 i < z_R Z := hZ.2.2.2.2.2.2.2.2
  intro m
  induction m with
  | zero => intro r h1 h3; omega
  | succ m ih =>
    intro r h1 h3 l v7 HL
    refine R_iload dX8_latestOf_23 rfl ?_
    refine R_aload_n dX8_latestOf_25 rfl ?_
    refine R_get dX8_latestOf_26 f_X8_82 mo rfl ?_
    refine R_geN 105 dX8_latestOf_29 rfl (by omega) (by omega) (fun c_29 => ?_) (fun c_29 => ?_)
    · have e : r = z_R Z := by omega
      subst e
      exact kk _ _ HL
    · have b9 := (b7 (q_pl (z_Q Z) p) r (u6 p hp) (by omega)).2
      have pl := u6 p hp
      refine R_aload_n dX8_latestOf_32 rfl ?_
      refine R_get dX8_latestOf_33 f_X8_35 mo rfl ?_
      refine R_bipush (nI 6) dX8_latestOf_36 rfl ?_
      refine R_aload_n dX8_latestOf_38 rfl ?_
      refine R_get dX8_latestOf_39 f_X8_38 mo rfl ?_
      refine R_bipush (nI 45) dX8_latestOf_42 rfl ?_
      refine R_iload_n dX8_latestOf_44 rfl ?_
      refine R_iaddN dX8_latestOf_45 ?_
      refine R_iald dX8_latestOf_46 m8 rfl (by omega) (by decide) ?_
      rw [q45 p (by omega)]
      refine R_imulN dX8_latestOf_47 ?_
      refine R_iload dX8_latestOf_48 rfl ?_
      refine R_iaddN dX8_latestOf_50 ?_
      refine R_iald dX8_latestOf_51 m7 rfl (by omega) (by decide) ?_
      rw [w7 (q_pl (z_Q Z) p) r (by omega) (by omega)]
      refine R_iload dX8_latestOf_52 rfl ?_
      refine R_aload_n dX8_latestOf_54 rfl ?_
      refine R_get dX8_latestOf_55 f_X8_38 mo rfl ?_
      refine R_iconst (nI 0) dX8_latestOf_58 rfl ?_
      refine R_iald dX8_latestOf_59 m8 rfl (by omega) (by decide) ?_
      rw [q0]
      refine R_isubN dX8_latestOf_60 (by omega) ?_
      refine R_gtN 68 dX8_latestOf_61 rfl (by omega) (by omega) (fun c_61 => ?_) (fun c_61 => ?_)
      · have hn : ¬ (v_good Z p s w c) u r := fun z => by have z1 := z.1; omega
        refine R_iconst (nI 0) dX8_latestOf_68 rfl ?_
        refine R_istore dX8_latestOf_69 (Nat.le_of_ble_eq_true rfl) rfl ?_
        refine R_iload dX8_latestOf_71 rfl ?_
        refine R_ifeqN 95 dX8_latestOf_73 rfl (by omega) (fun c_73 => ?_) (fun c_73 => ?_)
        · skip
          refine R_iload dX8_latestOf_95 rfl ?_
          refine R_istore dX8_latestOf_97 (Nat.le_of_ble_eq_true rfl) rfl ?_
          refine R_iincN dX8_latestOf_99 rfl (Nat.le_of_ble_eq_true rfl) rfl ?_
          refine R_goto 23 dX8_latestOf_102 rfl ?_
          exact ih (r + 1) (by omega) (by omega) _ _ (HL.no (t := u) (r := r) hn (fun x y z => by omega) (fun x y z => by omega))
        · omega
      · skip
        refine R_iconst (nI 1) dX8_latestOf_64 rfl ?_
        refine R_goto 69 dX8_latestOf_65 rfl ?_
        refine R_istore dX8_latestOf_69 (Nat.le_of_ble_eq_true rfl) rfl ?_
        refine R_iload dX8_latestOf_71 rfl ?_
        refine R_ifeqN 95 dX8_latestOf_73 rfl (by omega) (fun c_73 => ?_) (fun c_73 => ?_)
        · omega
        · skip
          refine R_aload_n dX8_latestOf_76 rfl ?_
          refine R_iload_n dX8_latestOf_77 rfl ?_
          refine R_iload dX8_latestOf_78 rfl ?_
          refine R_iload dX8_latestOf_80 rfl ?_
          refine R_iload_n dX8_latestOf_82 rfl ?_
          refine R_cV4p (N := m_X8_saysIn) dX8_latestOf_83 l_X8_273 i_X8_saysIn mo (n_saysIn C hZ hk hp hu (by omega) hw (H.at hqu hu)) rfl rfl ?_
          have g3 := v_go_le (z_F Z) (v_V Z p s (z_N Z - (u + 1))) (w ||| v_won Z p u r) r (z_D Z)
          have g4 := v_V_le Z p s (z_N Z - (u + 1)) r (w ||| v_won Z p u r)
          refine R_iload_n dX8_latestOf_86 rfl ?_
          refine R_neN 95 dX8_latestOf_87 rfl (by omega) (by omega) (fun c_87 => ?_) (fun c_87 => ?_)
          · have hn : ¬ (v_good Z p s w c) u r := fun z => c_87 z.2
            refine R_iload dX8_latestOf_95 rfl ?_
            refine R_istore dX8_latestOf_97 (Nat.le_of_ble_eq_true rfl) rfl ?_
            refine R_iincN dX8_latestOf_99 rfl (Nat.le_of_ble_eq_true rfl) rfl ?_
            refine R_goto 23 dX8_latestOf_102 rfl ?_
            exact ih (r + 1) (by omega) (by omega) _ _ (HL.no (t := u) (r := r) hn (fun x y z => by omega) (fun x y z => by omega))
          · have hn : (v_good Z p s w c) u r := ⟨by omega, c_87⟩
            refine R_iload dX8_latestOf_90 rfl ?_
            refine R_goto 97 dX8_latestOf_92 rfl ?_
            refine R_istore dX8_latestOf_97 (Nat.le_of_ble_eq_true rfl) rfl ?_
            refine R_iincN dX8_latestOf_99 rfl (Nat.le_of_ble_eq_true rfl) rfl ?_
            refine R_goto 23 dX8_latestOf_102 rfl ?_
            exact ih (r + 1) (by omega) (by omega) _ _ (HL.yes (t := u) (r := r) hn (fun x y z => by omega) (by omega) (fun x y z => by omega))
theorem n_lat_u {h : xH} {Z : xZ} {k : Nat} {M : Nat → Nat → Int32} {sd : Nat → Int64} {kp t : Nat → Int32} (C : x_ML h Z M sd kp t) (hZ : x_ZB k Z) (hk : k ≤ 50000) {p s w c : Nat} (hp : p < z_P Z) (hw : w < 64) (hc : c ≤ 99) (H : x_fwp Z p s (M 21) (q_hr (z_Q Z)) (z_R Z) 0) : ∀ (m u : Nat), q_hr (z_Q Z) ≤ u → u ≤ z_N Z → z_N Z + 1 ≤ u + m → ∀ l v6 v7, x_lst (v_good Z p s w c) (fun x y => q_hr (z_Q Z) ≤ x ∧ x < u ∧ y < z_R Z) l → x_Rn m_X8_latestOf 11 [some (.ref 372), some (.int (nI p)), some (.int (nI w)), some (.int (nI c)), some (.int l), some (.int (nI u)), v6, v7] [] h (0, 0) (x_ir (fun r h' => x_lst (v_good Z p s w c) (fun x y => q_hr (z_Q Z) ≤ x ∧ x < z_N Z ∧ y < z_R Z) r ∧ h' = h)) := by
  obtain ⟨HM, HZ⟩ := id C
  have mo : h[372]? = some (x_mob (z_X Z).1 (z_f Z) (z_N Z) (z_R Z) (z_D Z) (z_P Z) (z_T Z).1 (z_s Z) (z_S Z).1 (z_B Z).1 t) := HM.1
  have m7 : h[380]? = some (x_ia 36 (M 7)) := HM.2 7 (by decide)
  have m8 : h[381]? = some (x_ia 51 (M 8)) := HM.2 8 (by decide)
  have m21 : h[394]? = some (x_ia 8064 (M 21)) := HM.2 21 (by decide)
  obtain ⟨w1, w2, w3, w4, w5, w6, w7, hq, wt, wi, wk, ws, wb, wx⟩ := id HZ
  obtain ⟨q0, q1, q2, q3, q9, q15, q21, q45⟩ := id hq
  have q21z : ∀ r9, r9 < z_R Z → M 8 (21 + r9) = q_la (z_Q Z) 0 r9 := fun r9 hr9 => q21 0 r9 (by decide) hr9
  have hB : x_HB (z_N Z) (z_R Z) (z_D Z) (z_P Z) (z_F Z) := hZ.1.hb
  have hQ : x_QB (z_N Z) (z_R Z) (z_P Z) (z_Q Z) := hZ.2.1.1
  obtain ⟨⟨b1, b2, b3, b4⟩, b5, b6, b7⟩ := id hB
  obtain ⟨u1, u2, u3, u4, u5, u6, u7, u8, u9⟩ := id hQ
  have bT : (z_T Z).1 ≤ 30 := hZ.2.2.1.1
  have bs : z_s Z < 2 ^ 31 := hZ.2.2.2.2.1
  have bX : (z_X Z).1 ≤ 240 := hZ.2.2.2.2.2.1.1
  have bXc : ∀ i, i < (z_X Z).1 → (z_X Z).2 i < 256 := hZ.2.2.2.2.2.1.2
  have bS : (z_S Z).1 ≤ 6 := hZ.2.2.2.2.2.2.1.1
  have bSr : ∀ i, i < (z_S Z).1 → (z_S Z).2.1 i < z_R Z := hZ.2.2.2.2.2.2.1.2
  have bB : (z_B Z).1 ≤ 20 := hZ.2.2.2.2.2.2.2.1
  have bBr : ∀ i, i < (z_B Z).1 → (z_B Z).2.1 i < z_R Z := hZ.2.2.2.2.2.2.2.2
  intro m
  induction m with
  | zero => intro u h1 h2 h3; omega
  | succ m ih =>
    intro u h1 h2 h3 l v6 v7 HL
    refine R_iload dX8_latestOf_11 rfl ?_
    refine R_aload_n dX8_latestOf_13 rfl ?_
    refine R_get dX8_latestOf_14 f_X8_154 mo rfl ?_
    refine R_geN 111 dX8_latestOf_17 rfl (by omega) (by omega) (fun c_17 => ?_) (fun c_17 => ?_)
    · have e : u = z_N Z := by omega
      subst e
      refine R_iload dX8_latestOf_111 rfl ?_
      exact R_iret dX8_latestOf_113 rfl rfl rfl ⟨_, rfl, HL, rfl⟩
    · refine R_iconst (nI 0) dX8_latestOf_20 rfl ?_
      refine R_istore dX8_latestOf_21 (Nat.le_of_ble_eq_true rfl) rfl ?_
      refine n_lat_r C hZ hk hp hw hc H h1 (by omega) (fun l v7 HL => ?_) (z_R Z + 1) 0 (by omega) (by omega) _ _ (HL.eq (fun x y => by omega))
      refine R_iincN dX8_latestOf_105 rfl (Nat.le_of_ble_eq_true rfl) rfl ?_
      refine R_goto 11 dX8_latestOf_108 rfl ?_
      exact ih (u + 1) (by omega) (by omega) (by omega) _ _ _ (HL.eq (fun x y => by omega))
theorem n_latestOf {h : xH} {Z : xZ} {k : Nat} {M : Nat → Nat → Int32} {sd : Nat → Int64} {kp t : Nat → Int32} (C : x_ML h Z M sd kp t) (hZ : x_ZB k Z) (hk : k ≤ 50000) {p s w c : Nat} (hp : p < z_P Z) (hw : w < 64) (hc : c ≤ 99) (H : x_fwp Z p s (M 21) (q_hr (z_Q Z)) (z_R Z) 0) (hN : q_hr (z_Q Z) < z_N Z) : x_Met m_X8_latestOf [.ref 372, .int (nI p), .int (nI w), .int (nI c)] h ((x_ir (fun r h' => x_lst (v_good Z p s w c) (fun x y => q_hr (z_Q Z) ≤ x ∧ x < z_N Z ∧ y < z_R Z) r ∧ h' = h))) := by
  obtain ⟨HM, HZ⟩ := id C
  have mo : h[372]? = some (x_mob (z_X Z).1 (z_f Z) (z_N Z) (z_R Z) (z_D Z) (z_P Z) (z_T Z).1 (z_s Z) (z_S Z).1 (z_B Z).1 t) := HM.1
  have m7 : h[380]? = some (x_ia 36 (M 7)) := HM.2 7 (by decide)
  have m8 : h[381]? = some (x_ia 51 (M 8)) := HM.2 8 (by decide)
  have m21 : h[394]? = some (x_ia 8064 (M 21)) := HM.2 21 (by decide)
  obtain ⟨w1, w2, w3, w4, w5, w6, w7, hq, wt, wi, wk, ws, wb, wx⟩ := id HZ
  obtain ⟨q0, q1, q2, q3, q9, q15, q21, q45⟩ := id hq
  have q21z : ∀ r9, r9 < z_R Z → M 8 (21 + r9) = q_la (z_Q Z) 0 r9 := fun r9 hr9 => q21 0 r9 (by decide) hr9
  have hB : x_HB (z_N Z) (z_R Z) (z_D Z) (z_P Z) (z_F Z) := hZ.1.hb
  have hQ : x_QB (z_N Z) (z_R Z) (z_P Z) (z_Q Z) := hZ.2.1.1
  obtain ⟨⟨b1, b2, b3, b4⟩, b5, b6, b7⟩ := id hB
  obtain ⟨u1, u2, u3, u4, u5, u6, u7, u8, u9⟩ := id hQ
  have bT : (z_T Z).1 ≤ 30 := hZ.2.2.1.1
  have bs : z_s Z < 2 ^ 31 := hZ.2.2.2.2.1
  have bX : (z_X Z).1 ≤ 240 := hZ.2.2.2.2.2.1.1
  have bXc : ∀ i, i < (z_X Z).1 → (z_X Z).2 i < 256 := hZ.2.2.2.2.2.1.2
  have bS : (z_S Z).1 ≤ 6 := hZ.2.2.2.2.2.2.1.1
  have bSr : ∀ i, i < (z_S Z).1 → (z_S Z).2.1 i < z_R Z := hZ.2.2.2.2.2.2.1.2
  have bB : (z_B Z).1 ≤ 20 := hZ.2.2.2.2.2.2.2.1
  have bBr : ∀ i, i < (z_B Z).1 → (z_B Z).2.1 i < z_R Z := hZ.2.2.2.2.2.2.2.2
  refine x_Met.of (lo := [some (.ref 372), some (.int (nI p)), some (.int (nI w)), some (.int (nI c)), none, none, none, none]) (by decide) rfl rfl rfl ?_
  refine R_iconst (-1) dX8_latestOf_0 rfl ?_
  refine R_istore dX8_latestOf_1 (Nat.le_of_ble_eq_true rfl) rfl ?_
  refine R_aload_n dX8_latestOf_3 rfl ?_
  refine R_get dX8_latestOf_4 f_X8_38 mo rfl ?_
  refine R_iconst (nI 0) dX8_latestOf_7 rfl ?_
  refine R_iald dX8_latestOf_8 m8 rfl (by omega) (by decide) ?_
  rw [q0]
  refine R_istore dX8_latestOf_9 (Nat.le_of_ble_eq_true rfl) rfl ?_
  exact n_lat_u C hZ hk hp hw hc H (z_N Z + 1) (q_hr (z_Q Z)) (by omega) (by omega) (by omega) _ _ _ (Or.inl ⟨rfl, fun x y z => by omega⟩)
theorem n_fewest {h : xH} {Z : xZ} {k : Nat} {M : Nat → Nat → Int32} {sd : Nat → Int64} {kp t : Nat → Int32} (C : x_ML h Z M sd kp t) (hZ : x_ZB k Z) (hk : k ≤ 50000) (p x w : Int32) : x_Met m_X8_fewest [.ref 372, .int p, .int x, .int w] h ((x_ir (fun r h' => x_fewM Z p x w r ∧ x_Model h' Z ∧ x_fD h h'))) := by
  obtain ⟨HM, HZ⟩ := id C
  have mo : h[372]? = some (x_mob (z_X Z).1 (z_f Z) (z_N Z) (z_R Z) (z_D Z) (z_P Z) (z_T Z).1 (z_s Z) (z_S Z).1 (z_B Z).1 t) := HM.1
  have m7 : h[380]? = some (x_ia 36 (M 7)) := HM.2 7 (by decide)
  have m8 : h[381]? = some (x_ia 51 (M 8)) := HM.2 8 (by decide)
  have m21 : h[394]? = some (x_ia 8064 (M 21)) := HM.2 21 (by decide)
  obtain ⟨w1, w2, w3, w4, w5, w6, w7, hq, wt, wi, wk, ws, wb, wx⟩ := id HZ
  obtain ⟨q0, q1, q2, q3, q9, q15, q21, q45⟩ := id hq
  have q21z : ∀ r9, r9 < z_R Z → M 8 (21 + r9) = q_la (z_Q Z) 0 r9 := fun r9 hr9 => q21 0 r9 (by decide) hr9
  have hB : x_HB (z_N Z) (z_R Z) (z_D Z) (z_P Z) (z_F Z) := hZ.1.hb
  have hQ : x_QB (z_N Z) (z_R Z) (z_P Z) (z_Q Z) := hZ.2.1.1
  obtain ⟨⟨b1, b2, b3, b4⟩, b5, b6, b7⟩ := id hB
  obtain ⟨u1, u2, u3, u4, u5, u6, u7, u8, u9⟩ := id hQ
  have bT : (z_T Z).1 ≤ 30 := hZ.2.2.1.1
  have bs : z_s Z < 2 ^ 31 := hZ.2.2.2.2.1
  have bX : (z_X Z).1 ≤ 240 := hZ.2.2.2.2.2.1.1
  have bXc : ∀ i, i < (z_X Z).1 → (z_X Z).2 i < 256 := hZ.2.2.2.2.2.1.2
  have bS : (z_S Z).1 ≤ 6 := hZ.2.2.2.2.2.2.1.1
  have bSr : ∀ i, i < (z_S Z).1 → (z_S Z).2.1 i < z_R Z := hZ.2.2.2.2.2.2.1.2
  have bB : (z_B Z).1 ≤ 20 := hZ.2.2.2.2.2.2.2.1
  have bBr : ∀ i, i < (z_B Z).1 → (z_B Z).2.1 i < z_R Z := hZ.2.2.2.2.2.2.2.2
  have FD := x_fD.rf h
  refine x_Met.of (lo := [some (.ref 372), some (.int p), some (.int x), some (.int w), none, none]) (by decide) rfl rfl rfl ?_
  refine R_aload_n dX8_fewest_0 rfl ?_
  refine R_iload_n dX8_fewest_1 rfl ?_
  refine R_cV1p (N := m_X8_isHeir) dX8_fewest_2 l_X8_229 i_X8_isHeir mo (n_isHeir C hZ hk p) rfl rfl ?_
  refine R_ifeqB 21 dX8_fewest_5 rfl (fun c_5 => ?_) (fun c_5 => ?_)
  · have ef : (x_has p (z_P Z) && x_hasS x (z_R Z)) = false := by rw [c_5]; rfl
    refine R_ldc (-1000000001) dX8_fewest_21 k_X8_222 ?_
    exact R_iret dX8_fewest_23 rfl rfl rfl ⟨_, rfl, by unfold x_fewM; rw [ef]; rfl, C.cl, x_fD.rf h⟩
  · refine R_iload_n dX8_fewest_8 rfl ?_
    refine R_iflt 21 dX8_fewest_9 rfl (fun c_9 => ?_) (fun c_9 => ?_)
    · have ef : (x_has p (z_P Z) && x_hasS x (z_R Z)) = false := by rw [x_hasS_m b2, decide_eq_false (fun z => z.1 c_9), Bool.and_false]
      refine R_ldc (-1000000001) dX8_fewest_21 k_X8_222 ?_
      exact R_iret dX8_fewest_23 rfl rfl rfl ⟨_, rfl, by unfold x_fewM; rw [ef]; rfl, C.cl, x_fD.rf h⟩
    · refine R_iload_n dX8_fewest_12 rfl ?_
      refine R_aload_n dX8_fewest_13 rfl ?_
      refine R_get dX8_fewest_14 f_X8_82 mo rfl ?_
      refine R_ishr dX8_fewest_17 ?_
      refine R_ifeq 24 dX8_fewest_18 rfl (fun c_18 => ?_) (fun c_18 => ?_)
      · have hS : x_hasS x (z_R Z) = true := by rw [x_hasS_m b2]; exact decide_eq_true ⟨c_9, c_18⟩
        have ef : (x_has p (z_P Z) && x_hasS x (z_R Z)) = true := by rw [c_5, hS]; rfl
        obtain ⟨s, hs, hxs, -⟩ := x_hasS_in b2 hS
        have hs64 : s < 64 := Nat.lt_of_lt_of_le hs (by have := Nat.pow_le_pow_right (show 0 < 2 by omega) b2; exact this)
        obtain ⟨p1, hp, hpp⟩ := x_has_t (by omega) c_5
        subst hxs hpp
        have hN : q_hr (z_Q Z) < z_N Z := by
          rcases u2 with z | z
          · exact z
          · have := (hZ.1.1.2.2.2.2 z).2.2; have hp : p1 < Z.1.2.2.2.1 := hp; omega
        have pl := u6 p1 hp
        have w64 : v_w0 Z p1 < 64 := s_mask64 b2 _
        have en : i_n (nI p1) = p1 := i_n_nI (by omega)
        have es : i_n (nI s) = s := i_n_nI (by omega)
        refine R_iload_n dX8_fewest_24 rfl ?_
        refine R_iconst (nI 0) dX8_fewest_25 rfl ?_
        refine R_iconst (nI 1) dX8_fewest_26 rfl ?_
        refine R_cS3p (N := m_X8_in) dX8_fewest_27 l_X8_85 i_X8_in (n_in _ _ _) rfl rfl ?_
        rw [show x_in w (nI 0) (nI 1) = x_has w 2 from x_in_has (by decide)]
        refine R_ifneB 36 dX8_fewest_30 rfl (fun c_30 => ?_) (fun c_30 => ?_)
        · refine R_aload_n dX8_fewest_36 rfl ?_
          refine R_aload_n dX8_fewest_37 rfl ?_
          refine R_iload_n dX8_fewest_38 rfl ?_
          refine R_iconst (nI 0) dX8_fewest_39 rfl ?_
          refine R_cV2p (N := m_X8_whoseOf) dX8_fewest_40 l_X8_197 i_X8_whoseOf mo (n_whose C hZ hk hp (by omega)) rfl rfl ?_
          refine R_cV1p (N := m_X8_wonOf) dX8_fewest_43 l_X8_277 i_X8_wonOf mo (n_wonOf C hZ hk _) rfl rfl ?_
          rw [s_set_mask _ _ (by omega)]
          refine R_istore dX8_fewest_46 (Nat.le_of_ble_eq_true rfl) rfl ?_
          refine R_aload_n dX8_fewest_48 rfl ?_
          refine R_iload_n dX8_fewest_49 rfl ?_
          refine R_iload_n dX8_fewest_50 rfl ?_
          refine R_cV2v (N := m_X8_laysFew) dX8_fewest_51 l_X8_280 i_X8_laysFew mo (n_laysFew hZ hk hp hs64 hN C) rfl rfl (fun h51 q_51 => ?_)
          obtain ⟨M, C, H, FD⟩ := q_51
          have cl := v_V_le Z p1 s (z_N Z - q_hr (z_Q Z)) (q_pl (z_Q Z) p1) (v_w0 Z p1)
          obtain ⟨HM, HZ⟩ := id C
          have mo : h51[372]? = some (x_mob (z_X Z).1 (z_f Z) (z_N Z) (z_R Z) (z_D Z) (z_P Z) (z_T Z).1 (z_s Z) (z_S Z).1 (z_B Z).1 t) := HM.1
          have m7 : h51[380]? = some (x_ia 36 (M 7)) := HM.2 7 (by decide)
          have m8 : h51[381]? = some (x_ia 51 (M 8)) := HM.2 8 (by decide)
          have m21 : h51[394]? = some (x_ia 8064 (M 21)) := HM.2 21 (by decide)
          obtain ⟨w1, w2, w3, w4, w5, w6, w7, hq, wt, wi, wk, ws, wb, wx⟩ := id HZ
          obtain ⟨q0, q1, q2, q3, q9, q15, q21, q45⟩ := id hq
          have q21z : ∀ r9, r9 < z_R Z → M 8 (21 + r9) = q_la (z_Q Z) 0 r9 := fun r9 hr9 => q21 0 r9 (by decide) hr9
          refine R_aload_n dX8_fewest_54 rfl ?_
          refine R_get dX8_fewest_55 f_X8_79 mo rfl ?_
          refine R_aload_n dX8_fewest_58 rfl ?_
          refine R_get dX8_fewest_59 f_X8_38 mo rfl ?_
          refine R_iconst (nI 0) dX8_fewest_62 rfl ?_
          refine R_iald dX8_fewest_63 m8 rfl (by omega) (by decide) ?_
          rw [q0]
          refine R_aload_n dX8_fewest_64 rfl ?_
          refine R_get dX8_fewest_65 f_X8_38 mo rfl ?_
          refine R_bipush (nI 45) dX8_fewest_68 rfl ?_
          refine R_iload_n dX8_fewest_70 rfl ?_
          refine R_iaddN dX8_fewest_71 ?_
          refine R_iald dX8_fewest_72 m8 rfl (by omega) (by decide) ?_
          rw [q45 p1 (by omega)]
          refine R_iload dX8_fewest_73 rfl ?_
          refine R_cS3p (N := m_X8_at) dX8_fewest_75 l_X8_267 i_X8_at (n_at (q_hr (z_Q Z)) (q_pl (z_Q Z) p1) (v_w0 Z p1)) rfl rfl ?_
          refine R_iald dX8_fewest_78 m21 rfl (by omega) (by decide) ?_
          rw [H.2 (q_pl (z_Q Z) p1) (v_w0 Z p1) pl w64 (Or.inl pl)]
          refine R_istore dX8_fewest_79 (Nat.le_of_ble_eq_true rfl) rfl ?_
          refine R_iload dX8_fewest_81 rfl ?_
          refine R_bipush (nI 99) dX8_fewest_83 rfl ?_
          refine R_ltN 90 dX8_fewest_85 rfl (by omega) (by omega) (fun c_85 => ?_) (fun c_85 => ?_)
          · refine R_iload_n dX8_fewest_90 rfl ?_
            refine R_ifne 99 dX8_fewest_91 rfl (fun c_91 => ?_) (fun c_91 => ?_)
            · refine R_iload dX8_fewest_99 rfl ?_
              refine R_ifneN 108 dX8_fewest_101 rfl (by omega) (fun c_101 => ?_) (fun c_101 => ?_)
              · skip
                refine R_aload_n dX8_fewest_108 rfl ?_
                refine R_iload_n dX8_fewest_109 rfl ?_
                refine R_iload dX8_fewest_110 rfl ?_
                refine R_iload dX8_fewest_112 rfl ?_
                refine R_cV3i (N := m_X8_latestOf) dX8_fewest_114 l_X8_284 i_X8_latestOf mo (n_latestOf C hZ hk hp w64 cl H hN) rfl rfl (fun r114 h114 q_114 => ?_)
                obtain ⟨HL, e114⟩ := q_114
                subst e114
                exact R_iret dX8_fewest_117 rfl rfl rfl ⟨_, rfl, by unfold x_fewM; rw [ef, if_pos rfl, c_30, if_pos rfl, en, es]; unfold x_fewN; rw [if_neg (by omega), if_neg (show ¬ w = nI 0 from c_91), if_neg c_101]; exact HL, C.cl, FD⟩
              · skip
                refine R_iconst (-1) dX8_fewest_104 rfl ?_
                refine R_goto 117 dX8_fewest_105 rfl ?_
                exact R_iret dX8_fewest_117 rfl rfl rfl ⟨_, rfl, by unfold x_fewM; rw [ef, if_pos rfl, c_30, if_pos rfl, en, es]; unfold x_fewN; rw [if_neg (by omega), if_neg (show ¬ w = nI 0 from c_91), if_pos c_101], C.cl, FD⟩
            · skip
              refine R_iload dX8_fewest_94 rfl ?_
              refine R_goto 117 dX8_fewest_96 rfl ?_
              exact R_iret dX8_fewest_117 rfl rfl rfl ⟨_, rfl, by unfold x_fewM; rw [ef, if_pos rfl, c_30, if_pos rfl, en, es]; unfold x_fewN; rw [if_neg (by omega), if_pos (show w = nI 0 from c_91)], C.cl, FD⟩
          · refine R_iconst (-1) dX8_fewest_88 rfl ?_
            exact R_iret dX8_fewest_89 rfl rfl rfl ⟨_, rfl, by unfold x_fewM; rw [ef, if_pos rfl, c_30, if_pos rfl, en, es]; unfold x_fewN; rw [if_pos (by omega)], C.cl, FD⟩
        · have hw2 := c_30
          refine R_ldc (-1000000002) dX8_fewest_33 k_X8_95 ?_
          exact R_iret dX8_fewest_35 rfl rfl rfl ⟨_, rfl, by unfold x_fewM; rw [ef, if_pos rfl, hw2]; rfl, C.cl, x_fD.rf h⟩
      · have ef : (x_has p (z_P Z) && x_hasS x (z_R Z)) = false := by rw [x_hasS_m b2, decide_eq_false (fun z => c_18 z.2), Bool.and_false]
        refine R_ldc (-1000000001) dX8_fewest_21 k_X8_222 ?_
        exact R_iret dX8_fewest_23 rfl rfl rfl ⟨_, rfl, by unfold x_fewM; rw [ef]; rfl, C.cl, x_fD.rf h⟩
