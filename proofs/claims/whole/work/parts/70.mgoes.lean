/-! a call with much on the stack -/
theorem x_runV16 {p : Program} {l : Launch} {e : Env} {R : Room} {s : State} {m : MethodId} {args : Array Value} {below : List Frame} {meth : Method} {c : Code} {H : Heap} {locs : List Loc} {cells slots : Nat} {y : MethodName} {bytes cc : ByteArray} {maxL nL mc ms n index : Nat} {ret : Option FieldType} {ws : List Cond} {rm : Room} {Pc : Array Value → State → Prop} {Qc : Array Value → State → Outcome → State → Prop} {free : Addr → Prop} {Ts : List Cond} {own C : String} {b : Addr} {As rest : List Value} {g : JFrame}
    (S : CallFix p m c cc nL s args Ts own) (hM : Met l y ws rm Pc Qc mc ms free) (cw : CallW R s args own C index y bytes maxL ret ws rm mc ms n) (h16 : 16 + (maxL + 11) + rm.locals ≤ R.locals) (hp : PreV s H C b Pc As)
    (hg : g.method = m) (hn : As.length = n) (hsize : g.locals.size = nL) (hstack : g.stack = As.reverse ++ .ref b :: rest) (hW : 2 * g.monitorRoom + (rest.map fun v => v.category).sum ≤ 16) (hdg : decode cc g.pc = .ok (.invokevirtual index, 3)) (hf : cells + mc ≤ R.cells ∧ slots + ms ≤ R.slots) :
    va_Run p l e R s m args below meth c H locs cells slots mc ms g rest (Qc (Value.ref b :: As).toArray) (free) := by
  have hK : Back l R p e below s args y 3 16 (PreOf R mc ms Pc) (PostOf Qc mc ms free) := by
    obtain ⟨hrc, hrs, hfr, -, hws, hcw, -, hini, -⟩ := cw.1
    exact back_of (bytes := bytes) (maxL := maxL) (ret := ret) hM hp.1 hrc hrs hfr h16 hws hcw (fun a' U hW => word_at hW (Or.inl (by first | rfl | simp [Cond.onTables, Cond.keeps, Cond.steady])) hini)
  obtain ⟨⟨-, -, -, -, -, -, hcode, -, hy, hlen, hl⟩, hin, hse⟩ := cw
  obtain ⟨hx, hb, hml, ho, -⟩ := S
  obtain ⟨-, ⟨cellB, hcB, hoB, hclB⟩, hPc⟩ := hp
  intro T hT X
  obtain ⟨v, vm₁, ⟨U', l2, c2, s2⟩, hW₁, X', ⟨g', mk, t, L, e1, e2, hq, h1, hL, h2, h3⟩, st⟩ := callV X hx (C := C) (bytes := bytes) (maxL := maxL) (ret := ret) ho hl hin hse hcode hy hK (by rw [hT]; exact hcB) hoB hclB hg (hsize.trans hml.symm) (argsL := As) (rest := rest) (fun sig h => hn.trans (hlen sig h)) hstack hW (by rw [hb]; exact hdg)
    (fun vm₁ hW₁ => ⟨hf.1, hf.2, hPc (T.setVm vm₁) hT hW₁⟩)
  dsimp only [Pt.U, Pt.locs, Pt.cells, Pt.slots] at X' e1 e2 h1 h2 h3 st
  subst h1; subst h2; subst h3
  exact ⟨v, (T.setVm vm₁).calling g' mk (Value.ref b :: As).toArray, t, U', L, hT, X', hL, e1, e2, hq, st⟩
theorem R_callV16 {M N : xM} {pc : Nat} {lo : List (Option Value)} {st : List Value} {h : xH} {cs : Nat × Nat} {K Kc : Option Value → xH → Prop} {idx ci a n : Nat} {fs av : List Value} (hd : decode M.2.2.1 pc = .ok (.invokevirtual idx, 3)) (hl : Cond.methodLink M.1 idx N.2.1 ∈ x_words) (hN : x_IV N n ci) (hn : av.length = n) (ha : h[a]? = some (.inr (ci, fs))) (hC : x_Met N (.ref a :: av) h Kc) (hf : x_fit M N cs = true) (h16 : Nat.ble (16 + (N.2.2.2.1 + 11) + N.2.2.2.2.2.locals) M.2.2.2.2.2.locals = true) (hs : Nat.ble ((st.map fun v => v.category).sum) 16 = true)
    (kk : ∀ v h', Kc v h' → x_Rn M (pc + 3) lo (v.toList ++ st) h' (cs.1 + N.2.2.2.2.2.cells, cs.2 + N.2.2.2.2.2.slots) K) : x_Rn M pc lo (av.reverse ++ .ref a :: st) h cs K := by
  intro p l e s m args below meth c G Z H locs ls C hR hS hL
  obtain ⟨i, rfl⟩ := x_big hR ha
  obtain ⟨⟨hcode, hini, hd3⟩, hinst, hsel, hci⟩ := hN
  obtain ⟨hroom, hcs⟩ := x_fit.of hf
  have hts := C.2.2.2.2.1
  obtain ⟨q, hq, hqn⟩ : ∃ q : vw_C, vwCl[ci]? = some q ∧ q.1 = N.2.1.cls := by
    cases hz : vwCl[ci]? with
    | none => rw [hz] at hci; cases hci
    | some q => rw [hz] at hci; exact ⟨q, rfl, Option.some.inj hci⟩
  have hrecv := va_recv hR.2.2.2.1 hR.2.2.1 hq (x_ws_get ha)
  rw [hqn] at hrecv
  have e1 : (av.reverse ++ .ref (i + 2) :: st).map (x_cv G) = (av.map (x_cv G)).reverse ++ .ref (x_sg G (i + 2)) :: st.map (x_cv G) := by
    rw [List.map_append, List.map_reverse]; rfl
  rw [e1]
  refine x_called (x_runV16 (Ts := x_words) (As := av.map (x_cv G)) (rest := st.map (x_cv G)) (b := x_sg G (i + 2)) ⟨C.1, C.2.1, C.2.2.1, C.2.2.2.1, hts⟩ (hC l G) ⟨callB_of n hts (x_good hcode) rfl rfl rfl (hts _ hini) (hts _ hl) hd3 hroom, hts _ hinst, hts _ hsel⟩ (Nat.le_of_ble_eq_true h16) ⟨x_blind G _ h, hrecv, fun U hU hW => ⟨rfl, by show x_Rep G h U U.heap; rw [hU]; exact hR.warm hW⟩⟩ rfl (by rw [List.length_map]; exact hn) hL.1 rfl (by show 2 * 0 + _ ≤ 16; rw [x_cats]; have := Nat.le_of_ble_eq_true hs; omega) hd hcs) hR hS ?_
  intro v h' H1 locs1 hK hR1 hS1
  rw [x_pos]
  exact kk v h' hK p l e s m args below meth c G Z H1 locs1 ls C hR1 hS1 hL
theorem R_cV1p16 {M N : xM} {pc : Nat} {lo : List (Option Value)} {st : List Value} {h : xH} {cs : Nat × Nat} {K : Option Value → xH → Prop} {x1 : Value} {idx ci a : Nat} {fs : List Value} {r : Int32} (hd : decode M.2.2.1 pc = .ok (.invokevirtual idx, 3)) (hl : Cond.methodLink M.1 idx N.2.1 ∈ x_words) (hN : x_IV N 1 ci) (ha : h[a]? = some (.inr (ci, fs))) (hC : x_Met N (.ref a :: [x1]) h (x_pr r h)) (hf : x_fit M N cs = true) (h16 : Nat.ble (16 + (N.2.2.2.1 + 11) + N.2.2.2.2.2.locals) M.2.2.2.2.2.locals = true) (hs : Nat.ble ((st.map fun v => v.category).sum) 16 = true) (kk : x_Rn M (pc + 3) lo (.int r :: st) h (cs.1 + N.2.2.2.2.2.cells, cs.2 + N.2.2.2.2.2.slots) K) : x_Rn M pc lo (x1 :: .ref a :: st) h cs K := R_callV16 (av := [x1]) hd hl hN rfl ha hC hf h16 hs (by rintro _ _ ⟨rfl, rfl⟩; exact kk)
/-! THE MODEL's fewest -/
theorem nI_or64 : ∀ a, a < 64 → ∀ b, b < 64 → nI a ||| nI b = nI (a ||| b) := by decide +kernel
def s_dif (s w : Nat) : Nat := s_mask 6 (fun i => s.testBit i && !w.testBit i)
theorem nI_dif64 : ∀ s, s < 64 → ∀ w, w < 64 → ((nI s &&& (nI w ^^^ (-1))) = 0 ↔ s_dif s w = 0) := by decide +kernel
theorem nI_bit64 : ∀ x, x < 64 → ∀ f, f < 6 → ((nI x >>> (nI f &&& 31)) &&& nI 1) = x_b (x.testBit f) := by decide +kernel
theorem nor64 {a b : Nat} (ha : a < 64) (hb : b < 64) : a ||| b < 64 := Nat.or_lt_two_pow (n := 6) ha hb
theorem s_reach_cong {N : Nat} {F : xF} {Q : xQ} {p f hr k i : Nat} {wd wd' : Nat → Bool} (h : wd i = wd' i) : s_reach N F Q p f hr k wd i = s_reach N F Q p f hr k wd' i := by
  unfold s_reach
  by_cases e : i = f
  · subst e; rw [h]
  · rw [decide_eq_false e, Bool.and_false, Bool.and_false]
def v_won (Z : xZ) (p hr r : Nat) : Nat := s_mask (z_R Z) (a_won (z_N Z) (z_R Z) (z_F Z) (z_Q Z) p hr r)
theorem v_or {Z : xZ} {p w u r : Nat} (hw : w < 64) (hR : z_R Z ≤ 6) : nI w ||| s_set (z_R Z) (s_reach (z_N Z) (z_F Z) (z_Q Z) p r u 0 (fun i => s_wd (z_Q Z) 0 i || w.testBit i)) = nI (w ||| v_won Z p u r) := by
  rw [s_set_mask _ _ (by omega), nI_or64 _ hw _ (s_mask64 hR _)]
  congr 1
  apply Nat.eq_of_testBit_eq
  intro i
  unfold v_won
  rw [Nat.testBit_or, Nat.testBit_or, s_mask_bit, s_mask_bit]
  cases hw : w.testBit i with
  | true => rfl
  | false =>
    unfold a_won
    rw [s_reach_cong (i := i) (wd' := s_wd (z_Q Z) 0) (by show (s_wd (z_Q Z) 0 i || w.testBit i) = _; rw [hw, Bool.or_false])]
    cases decide (i < z_R Z) <;> rfl
def v_go (F : xF) (f : Nat → Nat → Nat) (w : Nat) : Nat → Nat → Nat
  | 0, r => f r w
  | d + 1, r => if F 1 d = r then min (v_go F f w d r) (f (F 2 d) w) else if F 2 d = r then min (v_go F f w d r) (f (F 1 d) w) else v_go F f w d r
def v_few (D : Nat) (F : xF) (won : Nat → Nat → Nat) (s N : Nat) : Nat → Nat → Nat → Nat
  | 0 => fun _ w => if s_dif s w = 0 then 0 else 99
  | k + 1 => fun r w => min (1 + v_go F (v_few D F won s N k) (w ||| won (N - 1 - k) r) D r) (v_go F (v_few D F won s N k) w D r)
theorem v_go_le (F : xF) (f : Nat → Nat → Nat) (w r : Nat) : ∀ d, v_go F f w d r ≤ f r w
  | 0 => Nat.le_refl _
  | d + 1 => by
    have := v_go_le F f w r d
    rw [v_go]
    split
    · omega
    · split <;> omega
theorem v_few_le (D : Nat) (F : xF) (won : Nat → Nat → Nat) (s N : Nat) : ∀ k r w, v_few D F won s N k r w ≤ 99
  | 0, r, w => by show (if s_dif s w = 0 then 0 else 99) ≤ 99; split <;> omega
  | k + 1, r, w => by
    have h1 := v_few_le D F won s N k r w
    have h2 := v_go_le F (v_few D F won s N k) w r D
    show min _ _ ≤ 99
    omega
def v_V (Z : xZ) (p s : Nat) : Nat → Nat → Nat → Nat := v_few (z_D Z) (z_F Z) (v_won Z p) s (z_N Z)
theorem v_V_le (Z : xZ) (p s k r w : Nat) : v_V Z p s k r w ≤ 99 := v_few_le _ _ _ _ _ k r w
theorem s_behind_cases {F : xF} {d r R : Nat} (hR : R ≤ 6) (h : F 1 d < R ∧ F 2 d < R) (f : Nat → Nat → Nat) (w : Nat) : (s_behind F d r = -1 → v_go F f w (d + 1) r = v_go F f w d r) ∧ (¬ s_behind F d r = -1 → ∃ q, q < R ∧ s_behind F d r = nI q ∧ v_go F f w (d + 1) r = min (v_go F f w d r) (f q w)) := by
  unfold s_behind
  rw [v_go]
  by_cases e1 : F 1 d = r
  · rw [if_pos e1, if_pos e1]
    exact ⟨fun z => absurd z (nI_ne_neg1 (by omega)), fun _ => ⟨_, h.2, rfl, rfl⟩⟩
  · rw [if_neg e1, if_neg e1]
    by_cases e2 : F 2 d = r
    · rw [if_pos e2, if_pos e2]
      exact ⟨fun z => absurd z (nI_ne_neg1 (by omega)), fun _ => ⟨_, h.1, rfl, rfl⟩⟩
    · rw [if_neg e2, if_neg e2]
      exact ⟨fun _ => rfl, fun z => absurd rfl z⟩
theorem n_goesOn_loop {h : xH} {Z : xZ} {k : Nat} {M : Nat → Nat → Int32} {sd : Nat → Int64} {kp t : Nat → Int32} (C : x_ML h Z M sd kp t) (hZ : x_ZB k Z) (hk : k ≤ 50000) {f : Nat → Nat → Nat} {u r w : Nat} (hu : u < z_N Z) (hr : r < z_R Z) (hw : w < 64) (hf : ∀ r w, r < z_R Z → w < 64 → M 21 (384 * (u + 1) + 64 * r + w) = nI (f r w) ∧ f r w ≤ 99) : ∀ (m d : Nat), d ≤ z_D Z → z_D Z + 1 ≤ d + m → ∀ v6 : Option Value, x_Rn m_X8_goesOn 18 [some (.ref 372), some (.int (nI u)), some (.int (nI r)), some (.int (nI w)), some (.int (nI (v_go (z_F Z) f w d r))), some (.int (nI d)), v6] [] h (0, 0) (x_pr (nI (v_go (z_F Z) f w (z_D Z) r)) h) := by
  obtain ⟨HM, HZ⟩ := id C
  have mo : h[372]? = some (x_mob (z_X Z).1 (z_f Z) (z_N Z) (z_R Z) (z_D Z) (z_P Z) (z_T Z).1 (z_s Z) (z_S Z).1 (z_B Z).1 t) := HM.1
  have m8 : h[381]? = some (x_ia 51 (M 8)) := HM.2 8 (by decide)
  have m21 : h[394]? = some (x_ia 8064 (M 21)) := HM.2 21 (by decide)
  obtain ⟨w1, w2, w3, w4, w5, w6, w7, hq, wt, wi, wk, ws, wb, wx⟩ := id HZ
  obtain ⟨q0, q1, q2, q3, q9, q15, q21, q45⟩ := id hq
  have q21z : ∀ r9, r9 < z_R Z → M 8 (21 + r9) = q_la (z_Q Z) 0 r9 := fun r9 hr9 => q21 0 r9 (by decide) hr9
  have hB : x_HB (z_N Z) (z_R Z) (z_D Z) (z_P Z) (z_F Z) := hZ.1.hb
  have hQ : x_QB (z_N Z) (z_R Z) (z_P Z) (z_Q Z) := hZ.2.1.1
  obtain ⟨⟨b1, b2, b3, b4⟩, b5, b6, b7⟩ := id hB
  obtain ⟨u1, u2, u3, u4, u5, u6, u7, u8, u9⟩ := id hQ
  have bT : (z_T Z).1 ≤ 30 := hZ.2.2.1.1
  have bs : z_s Z < 2 ^ 31 := hZ.2.2.2.2.1
  have bX : (z_X Z).1 ≤ 240 := hZ.2.2.2.2.2.1.1
  have bXc : ∀ i, i < (z_X Z).1 → (z_X Z).2 i < 256 := hZ.2.2.2.2.2.1.2
  have bS : (z_S Z).1 ≤ 6 := hZ.2.2.2.2.2.2.1.1
  have bSr : ∀ i, i < (z_S Z).1 → (z_S Z).2.1 i < z_R Z := hZ.2.2.2.2.2.2.1.2
  have bB : (z_B Z).1 ≤ 20 := hZ.2.2.2.2.2.2.2.1
  have bBr : ∀ i, i < (z_B Z).1 → (z_B Z).2.1 i < z_R Z := hZ.2.2.2.2.2.2.2.2
  have hf0 := (hf r w hr hw).2
  intro m
  induction m with
  | zero => intro d h1 h3; omega
  | succ m ih =>
    intro d h1 h3 v6
    have v9 := v_go_le (z_F Z) f w r d
    refine R_iload dX8_goesOn_18 rfl ?_
    refine R_aload_n dX8_goesOn_20 rfl ?_
    refine R_get dX8_goesOn_21 f_X8_92 mo rfl ?_
    refine R_geN 83 dX8_goesOn_24 rfl (by omega) (by omega) (fun c_24 => ?_) (fun c_24 => ?_)
    · have e : d = z_D Z := by omega
      subst e
      refine R_iload dX8_goesOn_83 rfl ?_
      exact R_iret dX8_goesOn_85 rfl rfl rfl x_pr.mk
    · refine R_aload_n dX8_goesOn_27 rfl ?_
      refine R_iload dX8_goesOn_28 rfl ?_
      refine R_iload_n dX8_goesOn_30 rfl ?_
      refine R_cV2p (N := m_X8_behind) dX8_goesOn_31 l_X8_242 i_X8_behind mo (n_behind C hZ hk (by omega) hr) rfl rfl ?_
      refine R_istore dX8_goesOn_34 (Nat.le_of_ble_eq_true rfl) rfl ?_
      refine R_iload dX8_goesOn_36 rfl ?_
      refine R_iconst (-1) dX8_goesOn_38 rfl ?_
      refine R_icmpeq 77 dX8_goesOn_39 rfl (fun c_39 => ?_) (fun c_39 => ?_)
      · have e9 := (s_behind_cases (r := r) b2 ⟨(b5 d (by omega)).1, (b5 d (by omega)).2.1⟩ f w).1 c_39
        refine R_iincN dX8_goesOn_77 rfl (Nat.le_of_ble_eq_true rfl) rfl ?_
        refine R_goto 18 dX8_goesOn_80 rfl ?_
        have z := ih (d + 1) (by omega) (by omega)
        rw [e9] at z
        exact z _
      · obtain ⟨q, hq, hb, e9⟩ := (s_behind_cases (r := r) b2 ⟨(b5 d (by omega)).1, (b5 d (by omega)).2.1⟩ f w).2 c_39
        rw [hb]
        have h9 := (hf q w hq hw).2
        refine R_aload_n dX8_goesOn_42 rfl ?_
        refine R_get dX8_goesOn_43 f_X8_79 mo rfl ?_
        refine R_iload_n dX8_goesOn_46 rfl ?_
        refine R_iconst (nI 1) dX8_goesOn_47 rfl ?_
        refine R_iaddN dX8_goesOn_48 ?_
        refine R_iload dX8_goesOn_49 rfl ?_
        refine R_iload_n dX8_goesOn_51 rfl ?_
        refine R_cS3p (N := m_X8_at) dX8_goesOn_52 l_X8_267 i_X8_at (n_at (u + 1) q w) rfl rfl ?_
        refine R_iald dX8_goesOn_55 m21 rfl (by omega) (by decide) ?_
        rw [(hf q w (by omega) (by omega)).1]
        refine R_iload dX8_goesOn_56 rfl ?_
        refine R_geN 77 dX8_goesOn_58 rfl (by omega) (by omega) (fun c_58 => ?_) (fun c_58 => ?_)
        · have e9 : v_go (z_F Z) f w (d + 1) r = v_go (z_F Z) f w d r := by omega
          refine R_iincN dX8_goesOn_77 rfl (Nat.le_of_ble_eq_true rfl) rfl ?_
          refine R_goto 18 dX8_goesOn_80 rfl ?_
          have z := ih (d + 1) (by omega) (by omega)
          rw [e9] at z
          exact z _
        · have e9 : v_go (z_F Z) f w (d + 1) r = f q w := by omega
          refine R_aload_n dX8_goesOn_61 rfl ?_
          refine R_get dX8_goesOn_62 f_X8_79 mo rfl ?_
          refine R_iload_n dX8_goesOn_65 rfl ?_
          refine R_iconst (nI 1) dX8_goesOn_66 rfl ?_
          refine R_iaddN dX8_goesOn_67 ?_
          refine R_iload dX8_goesOn_68 rfl ?_
          refine R_iload_n dX8_goesOn_70 rfl ?_
          refine R_cS3p (N := m_X8_at) dX8_goesOn_71 l_X8_267 i_X8_at (n_at (u + 1) q w) rfl rfl ?_
          refine R_iald dX8_goesOn_74 m21 rfl (by omega) (by decide) ?_
          rw [(hf q w (by omega) (by omega)).1]
          refine R_istore dX8_goesOn_75 (Nat.le_of_ble_eq_true rfl) rfl ?_
          refine R_iincN dX8_goesOn_77 rfl (Nat.le_of_ble_eq_true rfl) rfl ?_
          refine R_goto 18 dX8_goesOn_80 rfl ?_
          have z := ih (d + 1) (by omega) (by omega)
          rw [e9] at z
          exact z _
theorem n_goesOn {h : xH} {Z : xZ} {k : Nat} {M : Nat → Nat → Int32} {sd : Nat → Int64} {kp t : Nat → Int32} (C : x_ML h Z M sd kp t) (hZ : x_ZB k Z) (hk : k ≤ 50000) {f : Nat → Nat → Nat} {u r w : Nat} (hu : u < z_N Z) (hr : r < z_R Z) (hw : w < 64) (hf : ∀ r w, r < z_R Z → w < 64 → M 21 (384 * (u + 1) + 64 * r + w) = nI (f r w) ∧ f r w ≤ 99) : x_Met m_X8_goesOn [.ref 372, .int (nI u), .int (nI r), .int (nI w)] h (x_pr (nI (v_go (z_F Z) f w (z_D Z) r)) h) := by
  obtain ⟨HM, HZ⟩ := id C
  have mo : h[372]? = some (x_mob (z_X Z).1 (z_f Z) (z_N Z) (z_R Z) (z_D Z) (z_P Z) (z_T Z).1 (z_s Z) (z_S Z).1 (z_B Z).1 t) := HM.1
  have m8 : h[381]? = some (x_ia 51 (M 8)) := HM.2 8 (by decide)
  have m21 : h[394]? = some (x_ia 8064 (M 21)) := HM.2 21 (by decide)
  obtain ⟨w1, w2, w3, w4, w5, w6, w7, hq, wt, wi, wk, ws, wb, wx⟩ := id HZ
  obtain ⟨q0, q1, q2, q3, q9, q15, q21, q45⟩ := id hq
  have q21z : ∀ r9, r9 < z_R Z → M 8 (21 + r9) = q_la (z_Q Z) 0 r9 := fun r9 hr9 => q21 0 r9 (by decide) hr9
  have hB : x_HB (z_N Z) (z_R Z) (z_D Z) (z_P Z) (z_F Z) := hZ.1.hb
  have hQ : x_QB (z_N Z) (z_R Z) (z_P Z) (z_Q Z) := hZ.2.1.1
  obtain ⟨⟨b1, b2, b3, b4⟩, b5, b6, b7⟩ := id hB
  obtain ⟨u1, u2, u3, u4, u5, u6, u7, u8, u9⟩ := id hQ
  have bT : (z_T Z).1 ≤ 30 := hZ.2.2.1.1
  have bs : z_s Z < 2 ^ 31 := hZ.2.2.2.2.1
  have bX : (z_X Z).1 ≤ 240 := hZ.2.2.2.2.2.1.1
  have bXc : ∀ i, i < (z_X Z).1 → (z_X Z).2 i < 256 := hZ.2.2.2.2.2.1.2
  have bS : (z_S Z).1 ≤ 6 := hZ.2.2.2.2.2.2.1.1
  have bSr : ∀ i, i < (z_S Z).1 → (z_S Z).2.1 i < z_R Z := hZ.2.2.2.2.2.2.1.2
  have bB : (z_B Z).1 ≤ 20 := hZ.2.2.2.2.2.2.2.1
  have bBr : ∀ i, i < (z_B Z).1 → (z_B Z).2.1 i < z_R Z := hZ.2.2.2.2.2.2.2.2
  refine x_Met.of (lo := [some (.ref 372), some (.int (nI u)), some (.int (nI r)), some (.int (nI w)), none, none, none]) (by decide) rfl rfl rfl ?_
  refine R_aload_n dX8_goesOn_0 rfl ?_
  refine R_get dX8_goesOn_1 f_X8_79 mo rfl ?_
  refine R_iload_n dX8_goesOn_4 rfl ?_
  refine R_iconst (nI 1) dX8_goesOn_5 rfl ?_
  refine R_iaddN dX8_goesOn_6 ?_
  refine R_iload_n dX8_goesOn_7 rfl ?_
  refine R_iload_n dX8_goesOn_8 rfl ?_
  refine R_cS3p (N := m_X8_at) dX8_goesOn_9 l_X8_267 i_X8_at (n_at (u + 1) r w) rfl rfl ?_
  refine R_iald dX8_goesOn_12 m21 rfl (by omega) (by decide) ?_
  rw [(hf r w (by omega) (by omega)).1]
  refine R_istore dX8_goesOn_13 (Nat.le_of_ble_eq_true rfl) rfl ?_
  refine R_iconst (nI 0) dX8_goesOn_15 rfl ?_
  refine R_istore dX8_goesOn_16 (Nat.le_of_ble_eq_true rfl) rfl ?_
  exact n_goesOn_loop C hZ hk hu hr hw hf (z_D Z + 1) 0 (by omega) (by omega) none
theorem n_saysIn {h : xH} {Z : xZ} {k : Nat} {M : Nat → Nat → Int32} {sd : Nat → Int64} {kp t : Nat → Int32} (C : x_ML h Z M sd kp t) (hZ : x_ZB k Z) (hk : k ≤ 50000) {p : Nat} (hp : p < z_P Z) {f : Nat → Nat → Nat} {u r w : Nat} (hu : u < z_N Z) (hr : r < z_R Z) (hw : w < 64) (hf : ∀ r w, r < z_R Z → w < 64 → M 21 (384 * (u + 1) + 64 * r + w) = nI (f r w) ∧ f r w ≤ 99) : x_Met m_X8_saysIn [.ref 372, .int (nI p), .int (nI u), .int (nI r), .int (nI w)] h (x_pr (nI (1 + v_go (z_F Z) f (w ||| v_won Z p u r) (z_D Z) r)) h) := by
  obtain ⟨HM, HZ⟩ := id C
  have mo : h[372]? = some (x_mob (z_X Z).1 (z_f Z) (z_N Z) (z_R Z) (z_D Z) (z_P Z) (z_T Z).1 (z_s Z) (z_S Z).1 (z_B Z).1 t) := HM.1
  have m8 : h[381]? = some (x_ia 51 (M 8)) := HM.2 8 (by decide)
  have m21 : h[394]? = some (x_ia 8064 (M 21)) := HM.2 21 (by decide)
  obtain ⟨w1, w2, w3, w4, w5, w6, w7, hq, wt, wi, wk, ws, wb, wx⟩ := id HZ
  obtain ⟨q0, q1, q2, q3, q9, q15, q21, q45⟩ := id hq
  have q21z : ∀ r9, r9 < z_R Z → M 8 (21 + r9) = q_la (z_Q Z) 0 r9 := fun r9 hr9 => q21 0 r9 (by decide) hr9
  have hB : x_HB (z_N Z) (z_R Z) (z_D Z) (z_P Z) (z_F Z) := hZ.1.hb
  have hQ : x_QB (z_N Z) (z_R Z) (z_P Z) (z_Q Z) := hZ.2.1.1
  obtain ⟨⟨b1, b2, b3, b4⟩, b5, b6, b7⟩ := id hB
  obtain ⟨u1, u2, u3, u4, u5, u6, u7, u8, u9⟩ := id hQ
  have bT : (z_T Z).1 ≤ 30 := hZ.2.2.1.1
  have bs : z_s Z < 2 ^ 31 := hZ.2.2.2.2.1
  have bX : (z_X Z).1 ≤ 240 := hZ.2.2.2.2.2.1.1
  have bXc : ∀ i, i < (z_X Z).1 → (z_X Z).2 i < 256 := hZ.2.2.2.2.2.1.2
  have bS : (z_S Z).1 ≤ 6 := hZ.2.2.2.2.2.2.1.1
  have bSr : ∀ i, i < (z_S Z).1 → (z_S Z).2.1 i < z_R Z := hZ.2.2.2.2.2.2.1.2
  have bB : (z_B Z).1 ≤ 20 := hZ.2.2.2.2.2.2.2.1
  have bBr : ∀ i, i < (z_B Z).1 → (z_B Z).2.1 i < z_R Z := hZ.2.2.2.2.2.2.2.2
  refine x_Met.of (lo := [some (.ref 372), some (.int (nI p)), some (.int (nI u)), some (.int (nI r)), some (.int (nI w))]) (by decide) rfl rfl rfl ?_
  refine R_iconst (nI 1) dX8_saysIn_0 rfl ?_
  refine R_aload_n dX8_saysIn_1 rfl ?_
  refine R_iload_n dX8_saysIn_2 rfl ?_
  refine R_iload_n dX8_saysIn_3 rfl ?_
  refine R_iload dX8_saysIn_4 rfl ?_
  refine R_aload_n dX8_saysIn_6 rfl ?_
  refine R_iload_n dX8_saysIn_7 rfl ?_
  refine R_iload_n dX8_saysIn_8 rfl ?_
  refine R_iload_n dX8_saysIn_9 rfl ?_
  refine R_iconst (nI 0) dX8_saysIn_10 rfl ?_
  refine R_aload_n dX8_saysIn_11 rfl ?_
  refine R_iconst (nI 0) dX8_saysIn_12 rfl ?_
  refine R_cV1p16 (N := m_X8_wordedOf) dX8_saysIn_13 l_X8_189 i_X8_wordedOf mo (n_worded C hZ hk (by omega)) rfl rfl rfl ?_
  rw [s_set_mask _ _ (by omega)]
  refine R_iload dX8_saysIn_16 rfl ?_
  refine R_ior dX8_saysIn_18 ?_
  rw [nI_or64 _ (s_mask64 b2 _) _ hw]
  refine R_cV5p (N := m_X8_countsIn) dX8_saysIn_19 l_X8_193 i_X8_countsIn mo (n_countsIn C hZ hk (wd := fun i => s_wd (z_Q Z) 0 i || w.testBit i) hp hr (by omega) (by omega) (by rw [nI_bit64 _ (nor64 (s_mask64 b2 _) hw) r (by omega), Nat.testBit_or, s_mask_bit, decide_eq_true hr]; rfl)) rfl rfl ?_
  refine R_ior dX8_saysIn_22 ?_
  rw [v_or hw b2]
  refine R_cV3p (N := m_X8_goesOn) dX8_saysIn_23 l_X8_270 i_X8_goesOn mo (n_goesOn C hZ hk hu hr (nor64 hw (s_mask64 b2 _)) hf) rfl rfl ?_
  refine R_iaddN dX8_saysIn_26 ?_
  exact R_iret dX8_saysIn_27 rfl rfl rfl x_pr.mk
def s_mine (Q : xQ) (x : Int32) (r : Nat) : Bool := decide (s_will Q r 0 = x)
theorem n_wonOf_loop {h : xH} {Z : xZ} {k : Nat} {M : Nat → Nat → Int32} {sd : Nat → Int64} {kp t : Nat → Int32} (C : x_ML h Z M sd kp t) (hZ : x_ZB k Z) (hk : k ≤ 50000) (x : Int32) : ∀ (m r : Nat), r ≤ z_R Z → z_R Z + 1 ≤ r + m → x_Rn m_X8_wonOf 4 [some (.ref 372), some (.int x), some (.int (s_set r (s_mine (z_Q Z) x))), some (.int (nI r))] [] h (0, 0) (x_pr (s_set (z_R Z) (s_mine (z_Q Z) x)) h) := by
  obtain ⟨HM, HZ⟩ := id C
  have mo : h[372]? = some (x_mob (z_X Z).1 (z_f Z) (z_N Z) (z_R Z) (z_D Z) (z_P Z) (z_T Z).1 (z_s Z) (z_S Z).1 (z_B Z).1 t) := HM.1
  have m8 : h[381]? = some (x_ia 51 (M 8)) := HM.2 8 (by decide)
  obtain ⟨w1, w2, w3, w4, w5, w6, w7, hq, wt, wi, wk, ws, wb, wx⟩ := id HZ
  obtain ⟨q0, q1, q2, q3, q9, q15, q21, q45⟩ := id hq
  have q21z : ∀ r9, r9 < z_R Z → M 8 (21 + r9) = q_la (z_Q Z) 0 r9 := fun r9 hr9 => q21 0 r9 (by decide) hr9
  have hB : x_HB (z_N Z) (z_R Z) (z_D Z) (z_P Z) (z_F Z) := hZ.1.hb
  have hQ : x_QB (z_N Z) (z_R Z) (z_P Z) (z_Q Z) := hZ.2.1.1
  obtain ⟨⟨b1, b2, b3, b4⟩, b5, b6, b7⟩ := id hB
  obtain ⟨u1, u2, u3, u4, u5, u6, u7, u8, u9⟩ := id hQ
  have bT : (z_T Z).1 ≤ 30 := hZ.2.2.1.1
  have bs : z_s Z < 2 ^ 31 := hZ.2.2.2.2.1
  have bX : (z_X Z).1 ≤ 240 := hZ.2.2.2.2.2.1.1
  have bXc : ∀ i, i < (z_X Z).1 → (z_X Z).2 i < 256 := hZ.2.2.2.2.2.1.2
  have bS : (z_S Z).1 ≤ 6 := hZ.2.2.2.2.2.2.1.1
  have bSr : ∀ i, i < (z_S Z).1 → (z_S Z).2.1 i < z_R Z := hZ.2.2.2.2.2.2.1.2
  have bB : (z_B Z).1 ≤ 20 := hZ.2.2.2.2.2.2.2.1
  have bBr : ∀ i, i < (z_B Z).1 → (z_B Z).2.1 i < z_R Z := hZ.2.2.2.2.2.2.2.2
  intro m
  induction m with
  | zero => intro r h1 h3; omega
  | succ m ih =>
    intro r h1 h3
    refine R_iload_n dX8_wonOf_4 rfl ?_
    refine R_aload_n dX8_wonOf_5 rfl ?_
    refine R_get dX8_wonOf_6 f_X8_82 mo rfl ?_
    refine R_geN 38 dX8_wonOf_9 rfl (by omega) (by omega) (fun c_9 => ?_) (fun c_9 => ?_)
    · have e : r = z_R Z := by omega
      subst e
      refine R_iload_n dX8_wonOf_38 rfl ?_
      exact R_iret dX8_wonOf_39 rfl rfl rfl x_pr.mk
    · refine R_iload_n dX8_wonOf_12 rfl ?_
      refine R_aload_n dX8_wonOf_13 rfl ?_
      refine R_iload_n dX8_wonOf_14 rfl ?_
      refine R_iconst (nI 0) dX8_wonOf_15 rfl ?_
      refine R_cV2p (N := m_X8_willBy) dX8_wonOf_16 l_X8_200 i_X8_willBy mo (n_will C hZ hk (r := r) (y := 0) (by omega) (by omega)) rfl rfl ?_
      refine R_iload_n dX8_wonOf_19 rfl ?_
      refine R_icmpne 29 dX8_wonOf_20 rfl (fun c_20 => ?_) (fun c_20 => ?_)
      · have hs := s_set_f2 (n := r) (f := (s_mine (z_Q Z) x)) (decide_eq_false c_20)
        refine R_iconst (nI 0) dX8_wonOf_29 rfl ?_
        refine R_ior dX8_wonOf_30 ?_
        rw [hs]
        refine R_istore_n dX8_wonOf_31 (Nat.le_of_ble_eq_true rfl) rfl ?_
        refine R_iincN dX8_wonOf_32 rfl (Nat.le_of_ble_eq_true rfl) rfl ?_
        refine R_goto 4 dX8_wonOf_35 rfl ?_
        exact ih (r + 1) (by omega) (by omega)
      · have hs := s_set_t (n := r) (f := (s_mine (z_Q Z) x)) (decide_eq_true c_20)
        refine R_iconst (nI 1) dX8_wonOf_23 rfl ?_
        refine R_iload_n dX8_wonOf_24 rfl ?_
        refine R_ishl dX8_wonOf_25 ?_
        refine R_goto 30 dX8_wonOf_26 rfl ?_
        refine R_ior dX8_wonOf_30 ?_
        rw [hs]
        refine R_istore_n dX8_wonOf_31 (Nat.le_of_ble_eq_true rfl) rfl ?_
        refine R_iincN dX8_wonOf_32 rfl (Nat.le_of_ble_eq_true rfl) rfl ?_
        refine R_goto 4 dX8_wonOf_35 rfl ?_
        exact ih (r + 1) (by omega) (by omega)
theorem n_wonOf {h : xH} {Z : xZ} {k : Nat} {M : Nat → Nat → Int32} {sd : Nat → Int64} {kp t : Nat → Int32} (C : x_ML h Z M sd kp t) (hZ : x_ZB k Z) (hk : k ≤ 50000) (x : Int32) : x_Met m_X8_wonOf [.ref 372, .int x] h (x_pr (s_set (z_R Z) (s_mine (z_Q Z) x)) h) := by

  refine x_Met.of (lo := [some (.ref 372), some (.int x), none, none]) (by decide) rfl rfl rfl ?_
  refine R_iconst (nI 0) dX8_wonOf_0 rfl ?_
  refine R_istore_n dX8_wonOf_1 (Nat.le_of_ble_eq_true rfl) rfl ?_
  refine R_iconst (nI 0) dX8_wonOf_2 rfl ?_
  refine R_istore_n dX8_wonOf_3 (Nat.le_of_ble_eq_true rfl) rfl ?_
  exact n_wonOf_loop C hZ hk x (z_R Z + 1) 0 (by omega) (by omega)
