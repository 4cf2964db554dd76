/-! THE TRAIL: a ring of 30 nights behind its two cells -/
def x_Trail (h : xH) (b cnt nx : Nat) : Prop := 2 ≤ b ∧ cnt ≤ 30 ∧ nx < 30 ∧ h[b]? = some (.inr (6, [.ref (b + 1), .int (nI cnt), .int (nI nx)])) ∧ h[b + 1]? = some (.inl (3, 30, .inr (.inr (.inr (.inr (fun i => if i < 30 then some (b + 2 + 9 * i) else none))))))
theorem x_Trail.kept {h h' : xH} {b cnt nx : Nat} (H : x_Trail h b cnt nx) (h0 : h'[b]? = h[b]?) (h1 : h'[b + 1]? = h[b + 1]?) : x_Trail h' b cnt nx := ⟨H.1, H.2.1, H.2.2.1, h0.trans H.2.2.2.1, h1.trans H.2.2.2.2⟩
theorem x_Trail.obj {h : xH} {b cnt nx : Nat} (H : x_Trail h b cnt nx) {cnt' nx' : Nat} (hc : cnt' ≤ 30) (hn : nx' < 30) : x_Trail (h.set b (.inr (6, [.ref (b + 1), .int (nI cnt'), .int (nI nx')]))) b cnt' nx' :=
  ⟨H.1, hc, hn, List.getElem?_set_self (List.getElem?_eq_some_iff.mp H.2.2.2.1).1, (List.getElem?_set_ne (by omega)).trans H.2.2.2.2⟩
/-- only cell b and the 9 cells from c on are others -/
def x_fr2 (h h' : xH) (b c : Nat) : Prop := ∀ q, ¬ q = b → q < c ∨ c + 9 ≤ q → h'[q]? = h[q]?
theorem x_fr2.obj {h g : xH} {b c : Nat} (f : x_fr2 h g b c) (e : xC) : x_fr2 h (g.set b e) b c := fun q h1 h2 => by rw [List.getElem?_set_ne (fun z => h1 z.symm)]; exact f q h1 h2
theorem x_fr2.rf (h : xH) (b c : Nat) : x_fr2 h h b c := fun _ _ _ => rfl
theorem c_Trail_clear {h : xH} {b cnt nx : Nat} (HT : x_Trail h b cnt nx) : x_Met m_X6_clear [.ref b] h (x_vd (fun h' => x_Trail h' b 0 0 ∧ ∀ q, ¬ q = b → h'[q]? = h[q]?)) := by
  obtain ⟨h2t, hc, hx, t0, t1⟩ := id HT
  have FR := x_fr2.rf h b 0
  refine x_Met.of (lo := [some (.ref b)]) (by decide) rfl rfl rfl ?_
  refine R_aload_n dX6_clear_0 rfl ?_
  refine R_iconst (nI 0) dX6_clear_1 rfl ?_
  refine R_put dX6_clear_2 f_X6_17 t0 (Nat.le_of_ble_eq_true rfl) (fun _ => rfl) (fun _ => rfl) ?_
  simp only [List.set_cons_succ, List.set_cons_zero]
  have HT := HT.obj (cnt' := 0) (nx' := nx) (by omega) (by omega)
  have FR := x_fr2.obj (b := b) FR (.inr (6, [.ref (b + 1), .int (nI (0)), .int (nI (nx))]))
  obtain ⟨h2t, hc, hx, t0, t1⟩ := id HT
  refine R_aload_n dX6_clear_5 rfl ?_
  refine R_iconst (nI 0) dX6_clear_6 rfl ?_
  refine R_put dX6_clear_7 f_X6_21 t0 (Nat.le_of_ble_eq_true rfl) (fun _ => rfl) (fun _ => rfl) ?_
  simp only [List.set_cons_succ, List.set_cons_zero]
  have HT := HT.obj (cnt' := 0) (nx' := 0) (by omega) (by omega)
  have FR := x_fr2.obj (b := b) FR (.inr (6, [.ref (b + 1), .int (nI (0)), .int (nI (0))]))
  obtain ⟨h2t, hc, hx, t0, t1⟩ := id HT
  exact R_vret dX6_clear_10 rfl rfl rfl ⟨rfl, HT, fun q hq => by rw [List.getElem?_set_ne (fun z => hq z.symm), List.getElem?_set_ne (fun z => hq z.symm)]⟩
theorem c_Trail_remember {h : xH} {b c cnt nx R P : Nat} {Q Q0 : xQ} (HT : x_Trail h b cnt nx) (HG : x_Night h (b + 2 + 9 * nx) 0 0 Q0) (HN : x_Night h c R P Q) (hR : R ≤ 6) (hP : P ≤ 6) (hd : c + 9 ≤ b ∨ b + 272 ≤ c) : x_Met m_X6_remember [.ref b, .ref c] h (x_vd (fun h' => x_Trail h' b (min (cnt + 1) 30) ((nx + 1) % 30) ∧ x_Night h' (b + 2 + 9 * nx) R P Q ∧ x_fr2 h h' b (b + 2 + 9 * nx))) := by
  obtain ⟨h2t, hc, hx, t0, t1⟩ := id HT
  obtain ⟨hg2, n0, -⟩ := id HG
  refine x_Met.of (lo := [some (.ref b), some (.ref c)]) (by decide) rfl rfl rfl ?_
  refine R_aload_n dX6_remember_0 rfl ?_
  refine R_get dX6_remember_1 f_X6_11 t0 rfl ?_
  refine R_aload_n dX6_remember_4 rfl ?_
  refine R_get dX6_remember_5 f_X6_21 t0 rfl ?_
  refine R_aald dX6_remember_8 t1 (by omega) (fun _ => rfl) rfl rfl (by omega) (by decide) (if_pos (by omega)) ?_
  refine R_aload_n dX6_remember_9 rfl ?_
  refine R_cV1v (N := m_X2_copyFrom) dX6_remember_10 l_X6_25 i_X2_copyFrom n0 (c_Night_copyFrom HG HN hR hP (by omega)) rfl rfl (fun h10 q_10 => ?_)
  obtain ⟨HG, FR1⟩ := q_10
  have HT := HT.kept (FR1 b (by omega)) (FR1 (b + 1) (by omega))
  have FR : x_fr2 h h10 b (b + 2 + 9 * nx) := fun q _ h4 => FR1 q h4
  obtain ⟨h2t, hc, hx, t0, t1⟩ := id HT
  refine R_aload_n dX6_remember_13 rfl ?_
  refine R_aload_n dX6_remember_14 rfl ?_
  refine R_get dX6_remember_15 f_X6_21 t0 rfl ?_
  refine R_iconst (nI 1) dX6_remember_18 rfl ?_
  refine R_iaddN dX6_remember_19 ?_
  refine R_bipush (nI 30) dX6_remember_20 rfl ?_
  refine R_iremN dX6_remember_22 (by omega) (by omega) (by omega) ?_
  refine R_put dX6_remember_23 f_X6_21 t0 (Nat.le_of_ble_eq_true rfl) (fun _ => rfl) (fun _ => rfl) ?_
  simp only [List.set_cons_succ, List.set_cons_zero]
  have HT := HT.obj (cnt' := cnt) (nx' := (nx + 1) % 30) (by omega) (by omega)
  have FR := x_fr2.obj (b := b) FR (.inr (6, [.ref (b + 1), .int (nI (cnt)), .int (nI ((nx + 1) % 30))]))
  obtain ⟨h2t, hc, hx, t0, t1⟩ := id HT
  have HG := HG.set (a := b) (.inr (6, [.ref (b + 1), .int (nI (cnt)), .int (nI ((nx + 1) % 30))])) (by omega)
  refine R_aload_n dX6_remember_26 rfl ?_
  refine R_aload_n dX6_remember_27 rfl ?_
  refine R_get dX6_remember_28 f_X6_17 t0 rfl ?_
  refine R_iconst (nI 1) dX6_remember_31 rfl ?_
  refine R_iaddN dX6_remember_32 ?_
  refine R_bipush (nI 30) dX6_remember_33 rfl ?_
  refine R_cS2p (N := m_J9_min_7cf53) dX6_remember_35 l_X6_29 i_J9_min_7cf53 (c_min (by omega) (by omega)) rfl rfl ?_
  refine R_put dX6_remember_38 f_X6_17 t0 (Nat.le_of_ble_eq_true rfl) (fun _ => rfl) (fun _ => rfl) ?_
  simp only [List.set_cons_succ, List.set_cons_zero]
  have HT := HT.obj (cnt' := min (cnt + 1) 30) (nx' := (nx + 1) % 30) (by omega) (by omega)
  have FR := x_fr2.obj (b := b) FR (.inr (6, [.ref (b + 1), .int (nI (min (cnt + 1) 30)), .int (nI ((nx + 1) % 30))]))
  obtain ⟨h2t, hc, hx, t0, t1⟩ := id HT
  have HG := HG.set (a := b) (.inr (6, [.ref (b + 1), .int (nI (min (cnt + 1) 30)), .int (nI ((nx + 1) % 30))])) (by omega)
  exact R_vret dX6_remember_41 rfl rfl rfl ⟨rfl, HT, HG, FR⟩
theorem c_Trail_takeBack {h : xH} {b c cnt nx n R P R0 P0 : Nat} {Q Q0 : xQ} (HT : x_Trail h b cnt nx) (hn : n ≤ 30) (hcn : n ≤ cnt) (HG : x_Night h (b + 2 + 9 * ((nx + 30 - n) % 30)) R P Q) (HN : x_Night h c R0 P0 Q0) (hR : R ≤ 6) (hP : P ≤ 6) (hd : c + 9 ≤ b ∨ b + 272 ≤ c) : x_Met m_X6_takeBack [.ref b, .int (nI n), .ref c] h (x_vd (fun h' => x_Trail h' b (cnt - n) ((nx + 30 - n) % 30) ∧ x_Night h' c R P Q ∧ x_fr2 h h' b c)) := by
  obtain ⟨h2t, hc, hx, t0, t1⟩ := id HT
  obtain ⟨hg2, n0, -⟩ := id HN
  have FR := x_fr2.rf h b c
  refine x_Met.of (lo := [some (.ref b), some (.int (nI n)), some (.ref c)]) (by decide) rfl rfl rfl ?_
  refine R_aload_n dX6_takeBack_0 rfl ?_
  refine R_aload_n dX6_takeBack_1 rfl ?_
  refine R_get dX6_takeBack_2 f_X6_21 t0 rfl ?_
  refine R_iload_n dX6_takeBack_5 rfl ?_
  refine R_isub dX6_takeBack_6 ?_
  refine R_bipush (nI 30) dX6_takeBack_7 rfl ?_
  refine R_cS2p (N := m_J9_floorMod_7cf53) dX6_takeBack_9 l_X6_35 i_J9_floorMod_7cf53 (c_floorMod hx (by omega)) rfl rfl ?_
  refine R_put dX6_takeBack_12 f_X6_21 t0 (Nat.le_of_ble_eq_true rfl) (fun _ => rfl) (fun _ => rfl) ?_
  simp only [List.set_cons_succ, List.set_cons_zero]
  have HT := HT.obj (cnt' := cnt) (nx' := (nx + 30 - n) % 30) (by omega) (by omega)
  have FR := x_fr2.obj (b := b) FR (.inr (6, [.ref (b + 1), .int (nI (cnt)), .int (nI ((nx + 30 - n) % 30))]))
  obtain ⟨h2t, hc, hx, t0, t1⟩ := id HT
  have HG := HG.set (a := b) (.inr (6, [.ref (b + 1), .int (nI (cnt)), .int (nI ((nx + 30 - n) % 30))])) (by omega)
  have HN := HN.set (a := b) (.inr (6, [.ref (b + 1), .int (nI (cnt)), .int (nI ((nx + 30 - n) % 30))])) (by omega)
  obtain ⟨hg2, n0, -⟩ := id HN
  refine R_aload_n dX6_takeBack_15 rfl ?_
  refine R_dup dX6_takeBack_16 rfl ?_
  refine R_get dX6_takeBack_17 f_X6_17 t0 rfl ?_
  refine R_iload_n dX6_takeBack_20 rfl ?_
  refine R_isubN dX6_takeBack_21 (by omega) ?_
  refine R_put dX6_takeBack_22 f_X6_17 t0 (Nat.le_of_ble_eq_true rfl) (fun _ => rfl) (fun _ => rfl) ?_
  simp only [List.set_cons_succ, List.set_cons_zero]
  have HT := HT.obj (cnt' := cnt - n) (nx' := (nx + 30 - n) % 30) (by omega) (by omega)
  have FR := x_fr2.obj (b := b) FR (.inr (6, [.ref (b + 1), .int (nI (cnt - n)), .int (nI ((nx + 30 - n) % 30))]))
  obtain ⟨h2t, hc, hx, t0, t1⟩ := id HT
  have HG := HG.set (a := b) (.inr (6, [.ref (b + 1), .int (nI (cnt - n)), .int (nI ((nx + 30 - n) % 30))])) (by omega)
  have HN := HN.set (a := b) (.inr (6, [.ref (b + 1), .int (nI (cnt - n)), .int (nI ((nx + 30 - n) % 30))])) (by omega)
  obtain ⟨hg2, n0, -⟩ := id HN
  refine R_aload_n dX6_takeBack_25 rfl ?_
  refine R_aload_n dX6_takeBack_26 rfl ?_
  refine R_get dX6_takeBack_27 f_X6_11 t0 rfl ?_
  refine R_aload_n dX6_takeBack_30 rfl ?_
  refine R_get dX6_takeBack_31 f_X6_21 t0 rfl ?_
  refine R_aald dX6_takeBack_34 t1 (by omega) (fun _ => rfl) rfl rfl (by omega) (by decide) (if_pos (by omega)) ?_
  refine R_cV1v (N := m_X2_copyFrom) dX6_takeBack_35 l_X6_25 i_X2_copyFrom n0 (c_Night_copyFrom HN HG hR hP (by omega)) rfl rfl (fun h35 q_35 => ?_)
  obtain ⟨HN, FR1⟩ := q_35
  have HT := HT.kept (FR1 b (by omega)) (FR1 (b + 1) (by omega))
  have FR : x_fr2 h h35 b c := fun q h3 h4 => (FR1 q h4).trans (FR q h3 h4)
  exact R_vret dX6_takeBack_38 rfl rfl rfl ⟨rfl, HT, HN, FR⟩
