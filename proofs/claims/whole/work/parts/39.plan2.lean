/-! THE PLANNER: go or stay, say or not, take -/
abbrev xa : Type := Nat → Nat → Nat → Bool
def a_go (F : xF) (α : xa) : Nat → xa
  | 0 => α
  | d + 1 => fun r c m => (a_go F α d r c m || (decide (r = F 1 d) && α (F 2 d) c m)) || (decide (r = F 2 d) && α (F 1 d) c m)
def x_bits (R w : Nat) (A : xA) (α : xa) : Prop := ∀ r c m, r < R → c ≤ w → m < 64 → s_lb (A r c) m = α r c m
def s_bgo (A B : xA) (x y c : Nat) : xA := s_aset (s_aset B x (vp_updL (B x) c (B x c ||| A y c))) y (vp_updL (s_aset B x (vp_updL (B x) c (B x c ||| A y c)) y) c (s_aset B x (vp_updL (B x) c (B x c ||| A y c)) y c ||| A x c))
theorem s_bgo_ne {A B : xA} {x y c i j : Nat} (h : ¬ j = c) : s_bgo A B x y c i j = B i j := by
  unfold s_bgo s_aset vp_updL
  by_cases e1 : i = y
  · subst e1
    rw [if_pos rfl]
    show (if j = c then _ else (if i = x then _ else B i) j) = B i j
    rw [if_neg h]
    by_cases e2 : i = x
    · subst e2; rw [if_pos rfl]; show (if j = c then _ else B i j) = B i j; rw [if_neg h]
    · rw [if_neg e2]
  · rw [if_neg e1]
    by_cases e2 : i = x
    · subst e2; rw [if_pos rfl]; show (if j = c then _ else B i j) = B i j; rw [if_neg h]
    · rw [if_neg e2]
theorem s_bgo_eq (A B : xA) (x y c i m : Nat) : s_lb (s_bgo A B x y c i c) m = ((s_lb (B i c) m || (decide (i = x) && s_lb (A y c) m)) || (decide (i = y) && s_lb (A x c) m)) := by
  unfold s_bgo s_aset vp_updL
  by_cases e1 : i = y
  · subst e1
    rw [if_pos rfl]
    show s_lb (if c = c then _ else _) m = _
    rw [if_pos rfl, s_lb_or]
    by_cases e2 : i = x
    · subst e2
      rw [if_pos rfl]
      show (s_lb (if c = c then _ else _) m || _) = _
      rw [if_pos rfl, s_lb_or]
      simp
    · rw [if_neg e2]; simp [e2]
  · rw [if_neg e1]
    by_cases e2 : i = x
    · subst e2
      rw [if_pos rfl]
      show s_lb (if c = c then _ else _) m = _
      rw [if_pos rfl, s_lb_or]
      simp [e1]
    · rw [if_neg e2]; simp [e1, e2]
theorem c_Planner_go_c {h : xH} {a b N R D P w : Nat} {F : xF} {fw lt : Int32} {A : xA} {α : xa} (hR : R ≤ 6) (hD : D ≤ 8) (hw : w ≤ 6) (hd : b + 22 ≤ a) (hF : ∀ d, d < D → F 1 d < R ∧ F 2 d < R) (hα : x_bits R w A α) {d : Nat} (hdD : d < D) (kk : ∀ (g : xH) (B : xA), x_House g b N R D P F → x_Plan g a fw lt A B → x_bits R w B (a_go F α (d + 1)) → x_fr h g a 15 → x_Rn m_X3_goOrStay 123 [some (.ref a), some (.ref b), some (.int (nI w)), some (.int (nI d)), some (.int (nI (F 1 d))), some (.int (nI (F 2 d))), some (.int (nI (w + 1)))] [] g (0, 0) (x_vd (fun h' => ∃ B, x_Plan h' a fw lt A B ∧ x_bits R w B (a_go F α D) ∧ x_fr h h' a 15))) : ∀ (n c : Nat), c ≤ w + 1 → w + 2 ≤ c + n → ∀ (B : xA) {g : xH}, x_House g b N R D P F → x_Plan g a fw lt A B → (∀ i j m, i < R → j ≤ w → m < 64 → s_lb (B i j) m = if j < c then a_go F α (d + 1) i j m else a_go F α d i j m) → x_fr h g a 15 → x_Rn m_X3_goOrStay 65 [some (.ref a), some (.ref b), some (.int (nI w)), some (.int (nI d)), some (.int (nI (F 1 d))), some (.int (nI (F 2 d))), some (.int (nI c))] [] g (0, 0) (x_vd (fun h' => ∃ B, x_Plan h' a fw lt A B ∧ x_bits R w B (a_go F α D) ∧ x_fr h h' a 15)) := by
  intro n
  induction n with
  | zero => intro c h1 h3; omega
  | succ n ih =>
    intro c h1 h3 B g H HP hB FR
    have wd := hF d hdD
    obtain ⟨h2, g0, g1, g2, g3, g4, g5, g6, g7, g8, g9, g10, g11⟩ := id H
    obtain ⟨hp2, p0, p1, p2, p3, p4⟩ := id HP
    refine R_iload dX3_goOrStay_65 rfl ?_
    refine R_iload_n dX3_goOrStay_67 rfl ?_
    refine R_gtN 123 dX3_goOrStay_68 rfl (by omega) (by omega) (fun c_68 => ?_) (fun c_68 => ?_)
    · have ec : c = w + 1 := by omega
      subst ec
      exact kk _ B H HP (fun i j m hi hj hm => by rw [hB i j m hi hj hm, if_pos (by omega)]) FR
    · refine R_aload_n dX3_goOrStay_71 rfl ?_
      refine R_get dX3_goOrStay_72 f_X3_23 p0 rfl ?_
      refine R_iload dX3_goOrStay_75 rfl ?_
      refine R_aald dX3_goOrStay_77 p3 (by omega) (fun _ => rfl) rfl rfl (by omega) (by decide) (if_pos (by omega)) ?_
      refine R_iload dX3_goOrStay_78 rfl ?_
      refine R_dup2 dX3_goOrStay_80 rfl rfl ?_
      refine R_lald dX3_goOrStay_81 (p4 _ (by omega)) rfl (by omega) (by decide) ?_
      refine R_aload_n dX3_goOrStay_82 rfl ?_
      refine R_get dX3_goOrStay_83 f_X3_20 p0 rfl ?_
      refine R_iload dX3_goOrStay_86 rfl ?_
      refine R_aald dX3_goOrStay_88 p1 (by omega) (fun _ => rfl) rfl rfl (by omega) (by decide) (if_pos (by omega)) ?_
      refine R_iload dX3_goOrStay_89 rfl ?_
      refine R_lald dX3_goOrStay_91 (p2 _ (by omega)) rfl (by omega) (by decide) ?_
      refine R_lor dX3_goOrStay_92 ?_
      refine R_last dX3_goOrStay_93 (p4 _ (by omega)) (by omega) rfl (by omega) (by decide) ?_
      have H := H.kept (h' := List.set g (a + 8 + 1 + F 1 d) (x_la 7 (vp_updL (B (F 1 d)) c (B (F 1 d) c ||| A (F 2 d) c)))) (fun q q1 q2 => List.getElem?_set_ne (by omega))
      have FR := FR.set (a := a + 8 + 1 + F 1 d) (x_la 7 (vp_updL (B (F 1 d)) c (B (F 1 d) c ||| A (F 2 d) c))) (by omega) (by omega)
      have HP := HP.b (r := F 1 d) (by omega) (vp_updL (B (F 1 d)) c (B (F 1 d) c ||| A (F 2 d) c))
      obtain ⟨hp2, p0, p1, p2, p3, p4⟩ := id HP
      obtain ⟨h2, g0, g1, g2, g3, g4, g5, g6, g7, g8, g9, g10, g11⟩ := id H
      refine R_aload_n dX3_goOrStay_94 rfl ?_
      refine R_get dX3_goOrStay_95 f_X3_23 p0 rfl ?_
      refine R_iload dX3_goOrStay_98 rfl ?_
      refine R_aald dX3_goOrStay_100 p3 (by omega) (fun _ => rfl) rfl rfl (by omega) (by decide) (if_pos (by omega)) ?_
      refine R_iload dX3_goOrStay_101 rfl ?_
      refine R_dup2 dX3_goOrStay_103 rfl rfl ?_
      refine R_lald dX3_goOrStay_104 (p4 _ (by omega)) rfl (by omega) (by decide) ?_
      refine R_aload_n dX3_goOrStay_105 rfl ?_
      refine R_get dX3_goOrStay_106 f_X3_20 p0 rfl ?_
      refine R_iload dX3_goOrStay_109 rfl ?_
      refine R_aald dX3_goOrStay_111 p1 (by omega) (fun _ => rfl) rfl rfl (by omega) (by decide) (if_pos (by omega)) ?_
      refine R_iload dX3_goOrStay_112 rfl ?_
      refine R_lald dX3_goOrStay_114 (p2 _ (by omega)) rfl (by omega) (by decide) ?_
      refine R_lor dX3_goOrStay_115 ?_
      refine R_last dX3_goOrStay_116 (p4 _ (by omega)) (by omega) rfl (by omega) (by decide) ?_
      have H := H.kept (h' := List.set (List.set g (a + 8 + 1 + F 1 d) (x_la 7 (vp_updL (B (F 1 d)) c (B (F 1 d) c ||| A (F 2 d) c)))) (a + 8 + 1 + F 2 d) (x_la 7 (vp_updL ((s_aset B (F 1 d) (vp_updL (B (F 1 d)) c (B (F 1 d) c ||| A (F 2 d) c))) (F 2 d)) c ((s_aset B (F 1 d) (vp_updL (B (F 1 d)) c (B (F 1 d) c ||| A (F 2 d) c))) (F 2 d) c ||| A (F 1 d) c)))) (fun q q1 q2 => List.getElem?_set_ne (by omega))
      have FR := FR.set (a := a + 8 + 1 + F 2 d) (x_la 7 (vp_updL ((s_aset B (F 1 d) (vp_updL (B (F 1 d)) c (B (F 1 d) c ||| A (F 2 d) c))) (F 2 d)) c ((s_aset B (F 1 d) (vp_updL (B (F 1 d)) c (B (F 1 d) c ||| A (F 2 d) c))) (F 2 d) c ||| A (F 1 d) c))) (by omega) (by omega)
      have HP := HP.b (r := F 2 d) (by omega) (vp_updL ((s_aset B (F 1 d) (vp_updL (B (F 1 d)) c (B (F 1 d) c ||| A (F 2 d) c))) (F 2 d)) c ((s_aset B (F 1 d) (vp_updL (B (F 1 d)) c (B (F 1 d) c ||| A (F 2 d) c))) (F 2 d) c ||| A (F 1 d) c))
      refine R_iincN dX3_goOrStay_117 rfl (Nat.le_of_ble_eq_true rfl) rfl ?_
      refine R_goto 65 dX3_goOrStay_120 rfl ?_
      have hB2 : ∀ i j m, i < R → j ≤ w → m < 64 → s_lb (s_bgo A B (F 1 d) (F 2 d) c i j) m = if j < c + 1 then a_go F α (d + 1) i j m else a_go F α d i j m := fun i j m hi hj hm => by
        by_cases e : j = c
        · subst e
          rw [s_bgo_eq, if_pos (by omega), hB i j m hi hj hm, if_neg (by omega), hα (F 2 d) j m (by omega) hj hm, hα (F 1 d) j m (by omega) hj hm]
          rfl
        · rw [s_bgo_ne e, hB i j m hi hj hm]
          by_cases e2 : j < c
          · rw [if_pos e2, if_pos (by omega)]
          · rw [if_neg e2, if_neg (by omega)]
      exact ih (c + 1) (by omega) (by omega) _ H HP hB2 FR
theorem c_Planner_go_d {h : xH} {a b N R D P w : Nat} {F : xF} {fw lt : Int32} {A : xA} {α : xa} (hR : R ≤ 6) (hD : D ≤ 8) (hw : w ≤ 6) (hd : b + 22 ≤ a) (hF : ∀ d, d < D → F 1 d < R ∧ F 2 d < R) (hα : x_bits R w A α) : ∀ (n d : Nat), d ≤ D → D + 1 ≤ d + n → ∀ (B : xA) (v4 v5 v6 : Option Value) {g : xH}, x_House g b N R D P F → x_Plan g a fw lt A B → x_bits R w B (a_go F α d) → x_fr h g a 15 → x_Rn m_X3_goOrStay 38 [some (.ref a), some (.ref b), some (.int (nI w)), some (.int (nI d)), v4, v5, v6] [] g (0, 0) (x_vd (fun h' => ∃ B, x_Plan h' a fw lt A B ∧ x_bits R w B (a_go F α D) ∧ x_fr h h' a 15)) := by
  intro n
  induction n with
  | zero => intro d h1 h3; omega
  | succ n ih =>
    intro d h1 h3 B v4 v5 v6 g H HP hB FR
    obtain ⟨h2, g0, g1, g2, g3, g4, g5, g6, g7, g8, g9, g10, g11⟩ := id H
    refine R_iload_n dX3_goOrStay_38 rfl ?_
    refine R_aload_n dX3_goOrStay_39 rfl ?_
    refine R_get dX3_goOrStay_40 f_X3_89 g0 rfl ?_
    refine R_geN 129 dX3_goOrStay_43 rfl (by omega) (by omega) (fun c_43 => ?_) (fun c_43 => ?_)
    · have e : d = D := by omega
      subst e
      exact R_vret dX3_goOrStay_129 rfl rfl rfl ⟨rfl, B, HP, hB, FR⟩
    · refine R_aload_n dX3_goOrStay_46 rfl ?_
      refine R_get dX3_goOrStay_47 f_X3_92 g0 rfl ?_
      refine R_iload_n dX3_goOrStay_50 rfl ?_
      refine R_iald dX3_goOrStay_51 g2 rfl (by omega) (by decide) ?_
      refine R_istore dX3_goOrStay_52 (Nat.le_of_ble_eq_true rfl) rfl ?_
      refine R_aload_n dX3_goOrStay_54 rfl ?_
      refine R_get dX3_goOrStay_55 f_X3_95 g0 rfl ?_
      refine R_iload_n dX3_goOrStay_58 rfl ?_
      refine R_iald dX3_goOrStay_59 g3 rfl (by omega) (by decide) ?_
      refine R_istore dX3_goOrStay_60 (Nat.le_of_ble_eq_true rfl) rfl ?_
      refine R_iconst (nI 0) dX3_goOrStay_62 rfl ?_
      refine R_istore dX3_goOrStay_63 (Nat.le_of_ble_eq_true rfl) rfl ?_
      refine c_Planner_go_c hR hD hw hd hF hα (by omega) (fun g B H HP hB FR => ?_) (w + 2) 0 (by omega) (by omega) B H HP (fun i j m hi hj hm => by rw [if_neg (by omega)]; exact hB i j m hi hj hm) FR
      refine R_iincN dX3_goOrStay_123 rfl (Nat.le_of_ble_eq_true rfl) rfl ?_
      refine R_goto 38 dX3_goOrStay_126 rfl ?_
      exact ih (d + 1) (by omega) (by omega) B (some (.int (nI (F 1 d)))) (some (.int (nI (F 2 d)))) (some (.int (nI (w + 1)))) H HP hB FR
theorem c_Planner_go_r {h : xH} {a b N R D P w : Nat} {F : xF} {fw lt : Int32} {A : xA} {α : xa} (hR : R ≤ 6) (hD : D ≤ 8) (hw : w ≤ 6) (hd : b + 22 ≤ a) (hF : ∀ d, d < D → F 1 d < R ∧ F 2 d < R) (hα : x_bits R w A α) : ∀ (n r : Nat), r ≤ R → R + 1 ≤ r + n → ∀ (B : xA) {g : xH}, x_House g b N R D P F → x_Plan g a fw lt A B → (∀ i j, i < R → j ≤ w → i < r → B i j = A i j) → x_fr h g a 15 → x_Rn m_X3_goOrStay 2 [some (.ref a), some (.ref b), some (.int (nI w)), some (.int (nI r)), none, none, none] [] g (0, 0) (x_vd (fun h' => ∃ B, x_Plan h' a fw lt A B ∧ x_bits R w B (a_go F α D) ∧ x_fr h h' a 15)) := by
  intro n
  induction n with
  | zero => intro r h1 h3; omega
  | succ n ih =>
    intro r h1 h3 B g H HP hB FR
    obtain ⟨h2, g0, g1, g2, g3, g4, g5, g6, g7, g8, g9, g10, g11⟩ := id H
    obtain ⟨hp2, p0, p1, p2, p3, p4⟩ := id HP
    refine R_iload_n dX3_goOrStay_2 rfl ?_
    refine R_aload_n dX3_goOrStay_3 rfl ?_
    refine R_get dX3_goOrStay_4 f_X3_53 g0 rfl ?_
    refine R_geN 36 dX3_goOrStay_7 rfl (by omega) (by omega) (fun c_7 => ?_) (fun c_7 => ?_)
    · refine R_iconst (nI 0) dX3_goOrStay_36 rfl ?_
      refine R_istore_n dX3_goOrStay_37 (Nat.le_of_ble_eq_true rfl) rfl ?_
      exact c_Planner_go_d hR hD hw hd hF hα (D + 1) 0 (by omega) (by omega) B none none none H HP (fun i j m hi hj hm => by rw [hB i j hi hj (by omega)]; exact hα i j m hi hj hm) FR
    · refine R_aload_n dX3_goOrStay_10 rfl ?_
      refine R_get dX3_goOrStay_11 f_X3_20 p0 rfl ?_
      refine R_iload_n dX3_goOrStay_14 rfl ?_
      refine R_aald dX3_goOrStay_15 p1 (by omega) (fun _ => rfl) rfl rfl (by omega) (by decide) (if_pos (by omega)) ?_
      refine R_iconst (nI 0) dX3_goOrStay_16 rfl ?_
      refine R_aload_n dX3_goOrStay_17 rfl ?_
      refine R_get dX3_goOrStay_18 f_X3_23 p0 rfl ?_
      refine R_iload_n dX3_goOrStay_21 rfl ?_
      refine R_aald dX3_goOrStay_22 p3 (by omega) (fun _ => rfl) rfl rfl (by omega) (by decide) (if_pos (by omega)) ?_
      refine R_iconst (nI 0) dX3_goOrStay_23 rfl ?_
      refine R_iload_n dX3_goOrStay_24 rfl ?_
      refine R_iconst (nI 1) dX3_goOrStay_25 rfl ?_
      refine R_iaddN dX3_goOrStay_26 ?_
      refine R_acpL dX3_goOrStay_27 l_X3_83 xi_acn xi_acs xi_System (p2 _ (by omega)) (p4 _ (by omega)) (by omega) (by omega) rfl rfl rfl (by omega) (by omega) (by decide) (by decide) rfl rfl rfl ?_
      have H := H.kept (h' := List.set g (a + 8 + 1 + r) (x_la 7 (va_cpy (A r) (B r) 0 0 (w + 1)))) (fun q q1 q2 => List.getElem?_set_ne (by omega))
      have FR := FR.set (a := a + 8 + 1 + r) (x_la 7 (va_cpy (A r) (B r) 0 0 (w + 1))) (by omega) (by omega)
      have HP := HP.b (r := r) (by omega) (va_cpy (A r) (B r) 0 0 (w + 1))
      refine R_iincN dX3_goOrStay_30 rfl (Nat.le_of_ble_eq_true rfl) rfl ?_
      refine R_goto 2 dX3_goOrStay_33 rfl ?_
      have hB2 : ∀ i j, i < R → j ≤ w → i < r + 1 → s_aset B r (va_cpy (A r) (B r) 0 0 (w + 1)) i j = A i j := fun i j hi hj hc => by
        unfold s_aset va_cpy
        by_cases e : i = r
        · subst e
          rw [if_pos rfl, if_pos (by omega), show 0 + (j - 0) = j by omega]
        · rw [if_neg e]; exact hB i j hi hj (by omega)
      exact ih (r + 1) (by omega) (by omega) _ H HP hB2 FR
theorem c_Planner_go {h : xH} {a b N R D P w : Nat} {F : xF} {fw lt : Int32} {A : xA} {α : xa} (hR : R ≤ 6) (hD : D ≤ 8) (hw : w ≤ 6) (hd : b + 22 ≤ a) (hF : ∀ d, d < D → F 1 d < R ∧ F 2 d < R) (hα : x_bits R w A α) {B : xA} (H : x_House h b N R D P F) (HP : x_Plan h a fw lt A B) : x_Met m_X3_goOrStay [.ref a, .ref b, .int (nI w)] h (x_vd (fun h' => ∃ B, x_Plan h' a fw lt A B ∧ x_bits R w B (a_go F α D) ∧ x_fr h h' a 15)) := by
  refine x_Met.of (lo := [some (.ref a), some (.ref b), some (.int (nI w)), none, none, none, none]) (by decide) rfl rfl rfl ?_
  refine R_iconst (nI 0) dX3_goOrStay_0 rfl ?_
  refine R_istore_n dX3_goOrStay_1 (Nat.le_of_ble_eq_true rfl) rfl ?_
  exact c_Planner_go_r hR hD hw hd hF hα (R + 1) 0 (by omega) (by omega) B H HP (fun i j hi hj hc => by omega) (x_fr.rf h a 15)
theorem c_Planner_say_loop {h : xH} {a R r w : Nat} {f : Nat → Bool} {fw lt : Int32} {A B : xA} (hR : R ≤ 6) (hw : w ≤ 6) (hr : r < 6) (hk1 : h[1]? = some (x_la 6 x_lack)) : ∀ (n c : Nat), 1 ≤ c → c ≤ w + 1 → w + 2 ≤ c + n → ∀ (A2 : xA) {g : xH}, x_Plan g a fw lt A2 B → (∀ i j, ¬ i = r → A2 i j = A i j) → A2 r 0 = A r 0 → (∀ j, 1 ≤ j → j < c → A2 r j = (B r j ||| s_winL (B r (j - 1)) (fun i => decide (i < R) && f i) 6)) → x_fr h g a 15 → x_Rn m_X3_sayOrNot 3 [some (.ref a), some (.int (nI r)), some (.int (s_set R f)), some (.int (nI w)), some (.int (nI c))] [] g (0, 0) (x_vd (fun h' => ∃ A', x_Plan h' a fw lt A' B ∧ (∀ i j, ¬ i = r → A' i j = A i j) ∧ A' r 0 = A r 0 ∧ (∀ c, 1 ≤ c → c ≤ w → A' r c = (B r c ||| s_winL (B r (c - 1)) (fun i => decide (i < R) && f i) 6)) ∧ x_fr h h' a 15)) := by
  intro n
  induction n with
  | zero => intro c h0 h1 h3; omega
  | succ n ih =>
    intro c h0 h1 h3 A2 g HP hA1 hA0 hA FR
    obtain ⟨hp2, p0, p1, p2, p3, p4⟩ := id HP
    refine R_iload dX3_sayOrNot_3 rfl ?_
    refine R_iload_n dX3_sayOrNot_5 rfl ?_
    refine R_gtN 50 dX3_sayOrNot_6 rfl (by omega) (by omega) (fun c_6 => ?_) (fun c_6 => ?_)
    · exact R_vret dX3_sayOrNot_50 rfl rfl rfl ⟨rfl, A2, HP, hA1, hA0, fun c hc1 hc2 => hA c hc1 (by omega), FR⟩
    · refine R_aload_n dX3_sayOrNot_9 rfl ?_
      refine R_get dX3_sayOrNot_10 f_X3_20 p0 rfl ?_
      refine R_iload_n dX3_sayOrNot_13 rfl ?_
      refine R_aald dX3_sayOrNot_14 p1 (by omega) (fun _ => rfl) rfl rfl (by omega) (by decide) (if_pos (by omega)) ?_
      refine R_iload dX3_sayOrNot_15 rfl ?_
      refine R_aload_n dX3_sayOrNot_17 rfl ?_
      refine R_get dX3_sayOrNot_18 f_X3_23 p0 rfl ?_
      refine R_iload_n dX3_sayOrNot_21 rfl ?_
      refine R_aald dX3_sayOrNot_22 p3 (by omega) (fun _ => rfl) rfl rfl (by omega) (by decide) (if_pos (by omega)) ?_
      refine R_iload dX3_sayOrNot_23 rfl ?_
      refine R_lald dX3_sayOrNot_25 (p4 _ (by omega)) rfl (by omega) (by decide) ?_
      refine R_aload_n dX3_sayOrNot_26 rfl ?_
      refine R_aload_n dX3_sayOrNot_27 rfl ?_
      refine R_get dX3_sayOrNot_28 f_X3_23 p0 rfl ?_
      refine R_iload_n dX3_sayOrNot_31 rfl ?_
      refine R_aald dX3_sayOrNot_32 p3 (by omega) (fun _ => rfl) rfl rfl (by omega) (by decide) (if_pos (by omega)) ?_
      refine R_iload dX3_sayOrNot_33 rfl ?_
      refine R_iconst (nI 1) dX3_sayOrNot_35 rfl ?_
      refine R_isubN dX3_sayOrNot_36 (by omega) ?_
      refine R_lald dX3_sayOrNot_37 (p4 _ (by omega)) rfl (by omega) (by decide) ?_
      refine R_iload_n dX3_sayOrNot_38 rfl ?_
      refine R_cV2l (N := m_X3_winnable) dX3_sayOrNot_39 l_X3_98 i_X3_winnable p0 (c_Planner_winnable hR ((FR 1 (by omega)).trans hk1)) rfl rfl ?_
      refine R_lor dX3_sayOrNot_42 ?_
      refine R_last dX3_sayOrNot_43 (p2 _ (by omega)) (by omega) rfl (by omega) (by decide) ?_
      have FR := FR.set (a := a + 1 + 1 + r) (x_la 7 (vp_updL (A2 r) c (B r c ||| s_winL (B r (c - 1)) (fun i => decide (i < R) && f i) 6))) (by omega) (by omega)
      have HP := HP.a (r := r) (by omega) (vp_updL (A2 r) c (B r c ||| s_winL (B r (c - 1)) (fun i => decide (i < R) && f i) 6))
      refine R_iincN dX3_sayOrNot_44 rfl (Nat.le_of_ble_eq_true rfl) rfl ?_
      refine R_goto 3 dX3_sayOrNot_47 rfl ?_
      refine ih (c + 1) (by omega) (by omega) (by omega) _ HP (fun i j hi => ?_) ?_ (fun j hj1 hj2 => ?_) FR
      · unfold s_aset; rw [if_neg hi]; exact hA1 i j hi
      · unfold s_aset vp_updL; rw [if_pos rfl]; show (if 0 = c then _ else A2 r 0) = _; rw [if_neg (by omega)]; exact hA0
      · unfold s_aset vp_updL
        rw [if_pos rfl]
        show (if j = c then _ else A2 r j) = _
        by_cases e : j = c
        · subst e; rw [if_pos rfl]
        · rw [if_neg e]; exact hA j hj1 (by omega)
theorem c_Planner_say {h : xH} {a R r w : Nat} {f : Nat → Bool} {fw lt : Int32} {A B : xA} (hR : R ≤ 6) (hw : w ≤ 6) (hr : r < 6) (hk1 : h[1]? = some (x_la 6 x_lack)) (HP : x_Plan h a fw lt A B) : x_Met m_X3_sayOrNot [.ref a, .int (nI r), .int (s_set R f), .int (nI w)] h (x_vd (fun h' => ∃ A', x_Plan h' a fw lt A' B ∧ (∀ i j, ¬ i = r → A' i j = A i j) ∧ A' r 0 = A r 0 ∧ (∀ c, 1 ≤ c → c ≤ w → A' r c = (B r c ||| s_winL (B r (c - 1)) (fun i => decide (i < R) && f i) 6)) ∧ x_fr h h' a 15)) := by
  refine x_Met.of (lo := [some (.ref a), some (.int (nI r)), some (.int (s_set R f)), some (.int (nI w)), none]) (by decide) rfl rfl rfl ?_
  refine R_iconst (nI 1) dX3_sayOrNot_0 rfl ?_
  refine R_istore dX3_sayOrNot_1 (Nat.le_of_ble_eq_true rfl) rfl ?_
  exact c_Planner_say_loop hR hw hr hk1 (w + 1) 1 (by omega) (by omega) (by omega) A HP (fun i j hi => rfl) rfl (fun j hj1 hj2 => by omega) (x_fr.rf h a 15)
theorem nI_ne_neg1 {k : Nat} (hk : k < 1000) : ¬ nI k = -1 := fun z => by
  have h1 : ¬ nI k < 0 := nI_pos (by omega)
  rw [z] at h1
  exact h1 (by decide)
theorem c_Planner_take_loop {h : xH} {a r m w hr : Nat} {fw lt : Int32} {A B : xA} (hr6 : r < 6) (hm : m < 64) (hw : w ≤ 6) (hfw : fw = -1 ∨ ∃ k, k ≤ 6 ∧ fw = nI k) (HP : x_Plan h a fw lt A B) : ∀ (n c : Nat), 1 ≤ c → c ≤ w + 1 → w + 2 ≤ c + n → (∀ j, 1 ≤ j → j < c → s_lb (A r j) m = true → ∃ k, k ≤ j ∧ fw = nI k) → x_Rn m_X3_take 3 [some (.ref a), some (.int (nI r)), some (.int (nI m)), some (.int (nI w)), some (.int (nI hr)), some (.int (nI c))] [] h (0, 0) (x_vd (fun h' => (h' = h ∧ (∀ c, 1 ≤ c → c ≤ w → s_lb (A r c) m = true → ∃ k, k ≤ c ∧ fw = nI k)) ∨ (∃ c, 1 ≤ c ∧ c ≤ w ∧ s_lb (A r c) m = true ∧ (∀ j, 1 ≤ j → j < c → s_lb (A r j) m = false) ∧ (fw = -1 ∨ ∃ k, c < k ∧ k ≤ 6 ∧ fw = nI k) ∧ x_Plan h' a (nI c) (nI hr) A B ∧ x_fr h h' a 15))) := by
  intro n
  induction n with
  | zero => intro c h0 h1 h3; omega
  | succ n ih =>
    intro c h0 h1 h3 hI
    obtain ⟨hp2, p0, p1, p2, p3, p4⟩ := id HP
    refine R_iload dX3_take_3 rfl ?_
    refine R_iload_n dX3_take_5 rfl ?_
    refine R_gtN 63 dX3_take_6 rfl (by omega) (by omega) (fun c_6 => ?_) (fun c_6 => ?_)
    · exact R_vret dX3_take_63 rfl rfl rfl ⟨rfl, Or.inl ⟨rfl, fun j hj1 hj2 hb => hI j hj1 (by omega) hb⟩⟩
    · refine R_aload_n dX3_take_9 rfl ?_
      refine R_get dX3_take_10 f_X3_20 p0 rfl ?_
      refine R_iload_n dX3_take_13 rfl ?_
      refine R_aald dX3_take_14 p1 (by omega) (fun _ => rfl) rfl rfl (by omega) (by decide) (if_pos (by omega)) ?_
      refine R_iload dX3_take_15 rfl ?_
      refine R_lald dX3_take_17 (p2 _ (by omega)) rfl (by omega) (by decide) ?_
      refine R_iload_n dX3_take_18 rfl ?_
      refine R_lushr dX3_take_19 ?_
      refine R_lconst (lN 1) dX3_take_20 rfl ?_
      refine R_land dX3_take_21 ?_
      refine R_lconst (lN 0) dX3_take_22 rfl ?_
      refine R_lcmp dX3_take_23 ?_
      refine R_ifeq 57 dX3_take_24 rfl (fun c_24 => ?_) (fun c_24 => ?_)
      · have bt : s_lb (A r c) m = false := (s_lb_ask _ hm).mp (lg_cmp0.mp c_24)
        refine R_iincN dX3_take_57 rfl (Nat.le_of_ble_eq_true rfl) rfl ?_
        refine R_goto 3 dX3_take_60 rfl ?_
        exact ih (c + 1) (by omega) (by omega) (by omega) (fun j hj1 hj2 hb => by
          by_cases e : j = c
          · subst e; rw [bt] at hb; cases hb
          · exact hI j hj1 (by omega) hb)
      · have bt : s_lb (A r c) m = true := by
          cases e : s_lb (A r c) m with
          | true => rfl
          | false => exact absurd (lg_cmp0.mpr ((s_lb_ask _ hm).mpr e)) c_24
        have FR := x_fr.rf h a 15
        refine R_aload_n dX3_take_27 rfl ?_
        refine R_get dX3_take_28 f_X3_9 p0 rfl ?_
        refine R_iconst (-1) dX3_take_31 rfl ?_
        refine R_icmpeq 44 dX3_take_32 rfl (fun c_32 => ?_) (fun c_32 => ?_)
        · have hlt : fw = -1 ∨ ∃ k, c < k ∧ k ≤ 6 ∧ fw = nI k := Or.inl c_32
          refine R_aload_n dX3_take_44 rfl ?_
          refine R_iload dX3_take_45 rfl ?_
          refine R_put dX3_take_47 f_X3_9 p0 (Nat.le_of_ble_eq_true rfl) (fun _ => rfl) (fun _ => rfl) ?_
          simp only [List.set_cons_succ, List.set_cons_zero]
          have HP := HP.obj (nI c) lt
          have FR := FR.set (a := a) (.inr (3, [.int (nI c), .int lt, .ref (a + 1), .ref (a + 8)])) (by omega) (by omega)
          obtain ⟨hp2, p0, p1, p2, p3, p4⟩ := id HP
          refine R_aload_n dX3_take_50 rfl ?_
          refine R_iload dX3_take_51 rfl ?_
          refine R_put dX3_take_53 f_X3_15 p0 (Nat.le_of_ble_eq_true rfl) (fun _ => rfl) (fun _ => rfl) ?_
          simp only [List.set_cons_succ, List.set_cons_zero]
          have HP := HP.obj (nI c) (nI hr)
          have FR := FR.set (a := a) (.inr (3, [.int (nI c), .int (nI hr), .ref (a + 1), .ref (a + 8)])) (by omega) (by omega)
          obtain ⟨hp2, p0, p1, p2, p3, p4⟩ := id HP
          exact R_vret dX3_take_56 rfl rfl rfl ⟨rfl, Or.inr ⟨c, h0, by omega, bt, fun j hj1 hj2 => by
              cases e : s_lb (A r j) m with
              | false => rfl
              | true =>
                obtain ⟨k1, hk1, ek1⟩ := hI j hj1 hj2 e
                rcases hlt with z | ⟨k2, hk2, hk3, ek2⟩
                · exact absurd (ek1.symm.trans z) (nI_ne_neg1 (by omega))
                · have := (nI_eq (by omega) (by omega)).mp (ek1.symm.trans ek2); omega, hlt, HP, FR⟩⟩
        · obtain ⟨k, hk, ek⟩ := hfw.resolve_left c_32
          refine R_iload dX3_take_35 rfl ?_
          refine R_aload_n dX3_take_37 rfl ?_
          refine R_get dX3_take_38 f_X3_9 p0 rfl ?_
          refine R_icmpge 57 dX3_take_41 rfl (fun c_41 => ?_) (fun c_41 => ?_)
          · have bt2 : ∃ k, k ≤ c ∧ fw = nI k := ⟨k, by rw [ek] at c_41; exact (nI_leI (by omega) (by omega)).mp c_41, ek⟩
            refine R_iincN dX3_take_57 rfl (Nat.le_of_ble_eq_true rfl) rfl ?_
            refine R_goto 3 dX3_take_60 rfl ?_
            exact ih (c + 1) (by omega) (by omega) (by omega) (fun j hj1 hj2 hb => by
              by_cases e : j = c
              · subst e; exact bt2
              · exact hI j hj1 (by omega) hb)
          · have hlt : fw = -1 ∨ ∃ k, c < k ∧ k ≤ 6 ∧ fw = nI k := Or.inr ⟨k, by rw [ek] at c_41; exact Nat.lt_of_not_le (fun z => c_41 ((nI_leI (by omega) (by omega)).mpr z)), hk, ek⟩
            refine R_aload_n dX3_take_44 rfl ?_
            refine R_iload dX3_take_45 rfl ?_
            refine R_put dX3_take_47 f_X3_9 p0 (Nat.le_of_ble_eq_true rfl) (fun _ => rfl) (fun _ => rfl) ?_
            simp only [List.set_cons_succ, List.set_cons_zero]
            have HP := HP.obj (nI c) lt
            have FR := FR.set (a := a) (.inr (3, [.int (nI c), .int lt, .ref (a + 1), .ref (a + 8)])) (by omega) (by omega)
            obtain ⟨hp2, p0, p1, p2, p3, p4⟩ := id HP
            refine R_aload_n dX3_take_50 rfl ?_
            refine R_iload dX3_take_51 rfl ?_
            refine R_put dX3_take_53 f_X3_15 p0 (Nat.le_of_ble_eq_true rfl) (fun _ => rfl) (fun _ => rfl) ?_
            simp only [List.set_cons_succ, List.set_cons_zero]
            have HP := HP.obj (nI c) (nI hr)
            have FR := FR.set (a := a) (.inr (3, [.int (nI c), .int (nI hr), .ref (a + 1), .ref (a + 8)])) (by omega) (by omega)
            obtain ⟨hp2, p0, p1, p2, p3, p4⟩ := id HP
            exact R_vret dX3_take_56 rfl rfl rfl ⟨rfl, Or.inr ⟨c, h0, by omega, bt, fun j hj1 hj2 => by
                cases e : s_lb (A r j) m with
                | false => rfl
                | true =>
                  obtain ⟨k1, hk1, ek1⟩ := hI j hj1 hj2 e
                  rcases hlt with z | ⟨k2, hk2, hk3, ek2⟩
                  · exact absurd (ek1.symm.trans z) (nI_ne_neg1 (by omega))
                  · have := (nI_eq (by omega) (by omega)).mp (ek1.symm.trans ek2); omega, hlt, HP, FR⟩⟩
theorem c_Planner_take {h : xH} {a r m w hr : Nat} {fw lt : Int32} {A B : xA} (hr6 : r < 6) (hm : m < 64) (hw : w ≤ 6) (hfw : fw = -1 ∨ ∃ k, k ≤ 6 ∧ fw = nI k) (HP : x_Plan h a fw lt A B) : x_Met m_X3_take [.ref a, .int (nI r), .int (nI m), .int (nI w), .int (nI hr)] h (x_vd (fun h' => (h' = h ∧ (∀ c, 1 ≤ c → c ≤ w → s_lb (A r c) m = true → ∃ k, k ≤ c ∧ fw = nI k)) ∨ (∃ c, 1 ≤ c ∧ c ≤ w ∧ s_lb (A r c) m = true ∧ (∀ j, 1 ≤ j → j < c → s_lb (A r j) m = false) ∧ (fw = -1 ∨ ∃ k, c < k ∧ k ≤ 6 ∧ fw = nI k) ∧ x_Plan h' a (nI c) (nI hr) A B ∧ x_fr h h' a 15))) := by
  refine x_Met.of (lo := [some (.ref a), some (.int (nI r)), some (.int (nI m)), some (.int (nI w)), some (.int (nI hr)), none]) (by decide) rfl rfl rfl ?_
  refine R_iconst (nI 1) dX3_take_0 rfl ?_
  refine R_istore dX3_take_1 (Nat.le_of_ble_eq_true rfl) rfl ?_
  exact c_Planner_take_loop hr6 hm hw hfw HP (w + 1) 1 (by omega) (by omega) (by omega) (fun j hj1 hj2 => by omega)
