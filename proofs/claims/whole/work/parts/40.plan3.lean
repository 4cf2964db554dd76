/-! THE PLAN -/
def a_won (N R : Nat) (F : xF) (Q : xQ) (p : Nat) (hr r i : Nat) : Bool := decide (i < R) && s_reach N F Q p r hr 0 (s_wd Q 0) i
/-- k hours ahead of the morning, at r, with c sayings: what may be missing -/
def a_bf (N D : Nat) (F : xF) (won : Nat → Nat → Nat → Bool) : Nat → xa
  | 0 => fun _ _ m => decide (m = 0)
  | k + 1 => fun r c m => if c = 0 then decide (m = 0) else a_go F (a_bf N D F won k) D r c m || a_go F (a_bf N D F won k) D r (c - 1) (s_clr (won (N - 1 - k) r) 6 m)
def x_okp (N R D : Nat) (F : xF) (Q : xQ) (p m w : Nat) (hr r c : Nat) : Prop := q_hr Q ≤ hr ∧ hr < N ∧ r < R ∧ F (20 + q_pl Q p) r ≤ hr - q_hr Q ∧ 1 ≤ c ∧ c ≤ w ∧ a_bf N D F (a_won N R F Q p) (N - hr) r c m = true
def x_best (ok : Nat → Nat → Nat → Prop) (S : Nat → Nat → Prop) (fw lt : Int32) : Prop := (fw = -1 ∧ lt = -1 ∧ ∀ hr r c, S hr r → ¬ ok hr r c) ∨ ∃ c hr r, c ≤ 6 ∧ S hr r ∧ ok hr r c ∧ fw = nI c ∧ lt = nI hr ∧ (∀ hr' r' c', S hr' r' → ok hr' r' c' → c ≤ c') ∧ ∀ hr' r', S hr' r' → ok hr' r' c → hr' ≤ hr
theorem x_best.fw {ok : Nat → Nat → Nat → Prop} {S : Nat → Nat → Prop} {fw lt : Int32} (h : x_best ok S fw lt) : fw = -1 ∨ ∃ k, k ≤ 6 ∧ fw = nI k := by
  rcases h with ⟨z, _⟩ | ⟨c, hr, r, h1, _, _, z, _⟩
  · exact Or.inl z
  · exact Or.inr ⟨c, h1, z⟩
theorem x_best.no {ok : Nat → Nat → Nat → Prop} {S S' : Nat → Nat → Prop} {fw lt : Int32} (h : x_best ok S fw lt) {t r : Nat} (hS : ∀ x y, S' x y → S x y ∨ (x = t ∧ y = r)) (hS2 : ∀ x y, S x y → S' x y) (hge : ∀ x y, S x y → t ≤ x) (hn : ∀ c, c ≤ 6 → ok t r c → ∃ k, k ≤ c ∧ fw = nI k) (h6 : ∀ c, ok t r c → c ≤ 6) : x_best ok S' fw lt := by
  rcases h with ⟨z1, z2, z3⟩ | ⟨c, hr, r0, h1, h2, h3, z1, z2, z3, z4⟩
  · refine Or.inl ⟨z1, z2, fun x y c hs hok => ?_⟩
    rcases hS x y hs with q | ⟨rfl, rfl⟩
    · exact z3 x y c q hok
    · obtain ⟨k, hk, ek⟩ := hn c (h6 c hok) hok
      have := h6 c hok
      exact nI_ne_neg1 (by omega) (ek.symm.trans z1)
  · refine Or.inr ⟨c, hr, r0, h1, hS2 _ _ h2, h3, z1, z2, fun x y c' hs hok => ?_, fun x y hs hok => ?_⟩
    · rcases hS x y hs with q | ⟨rfl, rfl⟩
      · exact z3 x y c' q hok
      · obtain ⟨k, hk, ek⟩ := hn c' (h6 c' hok) hok
        have := h6 c' hok
        have := (nI_eq (by omega) (by omega)).mp (ek.symm.trans z1)
        omega
    · rcases hS x y hs with q | ⟨rfl, rfl⟩
      · exact z4 x y q hok
      · exact hge _ _ h2
theorem x_best.yes {ok : Nat → Nat → Nat → Prop} {S S' : Nat → Nat → Prop} {fw lt : Int32} (h : x_best ok S fw lt) {t r c : Nat} (hS : ∀ x y, S' x y → S x y ∨ (x = t ∧ y = r)) (hS3 : S' t r) (hc : c ≤ 6) (hok : ok t r c) (hmin : ∀ j, j < c → ¬ ok t r j) (hlt : fw = -1 ∨ ∃ k, c < k ∧ k ≤ 6 ∧ fw = nI k) : x_best ok S' (nI c) (nI t) := by
  have hbig : ∀ x y c', S x y → ok x y c' → c < c' := by
    rcases h with ⟨z1, z2, z3⟩ | ⟨c0, hr, r0, h1, h2, h3, z1, z2, z3, z4⟩
    · exact fun x y c' hs ho => absurd ho (z3 x y c' hs)
    · intro x y c' hs ho
      have := z3 x y c' hs ho
      rcases hlt with q | ⟨k, hk1, hk2, q⟩
      · exact absurd (z1.symm.trans q) (nI_ne_neg1 (by omega))
      · have := (nI_eq (by omega) (by omega)).mp (z1.symm.trans q)
        omega
  refine Or.inr ⟨c, t, r, hc, hS3, hok, rfl, rfl, fun x y c' hs ho => ?_, fun x y hs ho => ?_⟩
  · rcases hS x y hs with q | ⟨rfl, rfl⟩
    · exact Nat.le_of_lt (hbig x y c' q ho)
    · exact Nat.le_of_not_lt (fun z => hmin c' z ho)
  · rcases hS x y hs with q | ⟨rfl, rfl⟩
    · have := hbig x y c q ho; omega
    · exact Nat.le_refl _
theorem x_best.eq {ok : Nat → Nat → Nat → Prop} {S S' : Nat → Nat → Prop} {fw lt : Int32} (h : x_best ok S fw lt) (hS : ∀ x y, S' x y ↔ S x y) : x_best ok S' fw lt := by
  have e : S' = S := by funext x y; exact propext (hS x y)
  rw [e]; exact h
theorem a_go_lt {F : xF} {α β : xa} {R D : Nat} (hF : ∀ d, d < D → F 1 d < R ∧ F 2 d < R) (h : ∀ r c m, r < R → α r c m = β r c m) : ∀ d, d ≤ D → ∀ r c m, r < R → a_go F α d r c m = a_go F β d r c m
  | 0, _, r, c, m, hr => h r c m hr
  | d + 1, hd, r, c, m, hr => by
    have w1 := hF d (by omega)
    show ((_ || _) || _) = ((_ || _) || _)
    rw [a_go_lt hF h d (by omega) r c m hr, h (F 2 d) c m w1.2, h (F 1 d) c m w1.1]
theorem c_Planner_plan_r {h : xH} {a b c N R D P : Nat} {F : xF} {Q : xQ} {p m w : Nat} (H0 : x_House h b N R D P F) (hB : x_HB N R D P F) (HN0 : x_Night h c R P Q) (hQ : x_QB N R P Q) (hN : q_hr Q < N) (hp : p < P) (hm : m < 64) (hw : w ≤ 6) (hd1 : b + 22 ≤ a) (hd2 : c + 9 ≤ a) (hk0 : h[1]? = some (x_la 6 x_lack)) (sv : Int32) {t k : Nat} (htk : t + k + 1 = N) (htq : q_hr Q ≤ t) {B : xA} (hBb : x_bits R w B (a_go F (a_bf N D F (a_won N R F Q p) k) D)) (kk : ∀ (g : xH) (A : xA) (fw lt : Int32), x_Plan g a fw lt A B → x_bits R w A (a_bf N D F (a_won N R F Q p) (k + 1)) → (∀ i, i < R → A i 0 = lN 1) → x_best (x_okp N R D F Q p m w) (fun x y => (t < x ∧ x < N ∧ y < R) ∨ (x = t ∧ y < R)) fw lt → x_fr h g a 15 → x_Rn m_X3_plan 147 [some (.ref a), some (.ref b), some (.ref c), some (.int (nI p)), some (.int sv), some (.int (nI m)), some (.int (nI w)), some (.int (nI t)), some (.int (nI R))] [] g (0, 0) (x_vd (fun h' => ∃ fw lt A B, x_Plan h' a fw lt A B ∧ x_best (x_okp N R D F Q p m w) (fun x y => q_hr Q ≤ x ∧ x < N ∧ y < R) fw lt ∧ x_fr h h' a 15))) : ∀ (n r : Nat), r ≤ R → R + 1 ≤ r + n → ∀ (A : xA) (fw lt : Int32) {g : xH}, x_Plan g a fw lt A B → x_bits r w A (a_bf N D F (a_won N R F Q p) (k + 1)) → (∀ i, i < R → A i 0 = lN 1) → x_best (x_okp N R D F Q p m w) (fun x y => (t < x ∧ x < N ∧ y < R) ∨ (x = t ∧ y < r)) fw lt → x_fr h g a 15 → x_Rn m_X3_plan 77 [some (.ref a), some (.ref b), some (.ref c), some (.int (nI p)), some (.int sv), some (.int (nI m)), some (.int (nI w)), some (.int (nI t)), some (.int (nI r))] [] g (0, 0) (x_vd (fun h' => ∃ fw lt A B, x_Plan h' a fw lt A B ∧ x_best (x_okp N R D F Q p m w) (fun x y => q_hr Q ≤ x ∧ x < N ∧ y < R) fw lt ∧ x_fr h h' a 15)) := by
  intro n
  induction n with
  | zero => intro r h1 h3; omega
  | succ n ih =>
    intro r h1 h3 A fw lt g HP hA hA0 hb FR
    have H := H0.kept (fun q q1 q2 => FR q (by omega))
    have HN := HN0.kept (fun q q1 q2 => FR q (by omega))
    have hk1 := (FR 1 (by omega)).trans hk0
    obtain ⟨h2, g0, g1, g2, g3, g4, g5, g6, g7, g8, g9, g10, g11⟩ := id H
    obtain ⟨h2n, n0, ⟨f1, n1, n1e⟩, n2, ⟨f3, n3, n3e⟩, n4, n5⟩ := id HN
    obtain ⟨hp2, p0, p1, p2, p3, p4⟩ := id HP
    obtain ⟨⟨b1, b2, b3, b4⟩, b5, b6, b7⟩ := id hB
    obtain ⟨u1, u2, u3, u4, u5, u6, u7, u8, u9⟩ := id hQ
    refine R_iload dX3_plan_77 rfl ?_
    refine R_aload_n dX3_plan_79 rfl ?_
    refine R_get dX3_plan_80 f_X3_53 g0 rfl ?_
    refine R_geN 147 dX3_plan_83 rfl (by omega) (by omega) (fun c_83 => ?_) (fun c_83 => ?_)
    · have er : r = R := by omega
      subst er
      exact kk _ _ _ _ HP hA hA0 hb FR
    · have hrR : r < R := by omega
      have wp := u6 p hp
      have ww := (b7 (q_pl Q p) r (by omega) hrR).2
      refine R_aload_n dX3_plan_86 rfl ?_
      refine R_iload dX3_plan_87 rfl ?_
      refine R_aload_n dX3_plan_89 rfl ?_
      refine R_aload_n dX3_plan_90 rfl ?_
      refine R_iload_n dX3_plan_91 rfl ?_
      refine R_iload dX3_plan_92 rfl ?_
      refine R_iload dX3_plan_94 rfl ?_
      refine R_iconst (nI 0) dX3_plan_96 rfl ?_
      refine R_cV5p (N := m_X2_reached) dX3_plan_97 l_X3_56 i_X2_reached n0 (c_Night_reached H hB HN hQ (p := p) (f := r) (t := t) (k := 0) hp (by omega) (by omega) (by omega)) rfl rfl ?_
      refine R_iload dX3_plan_100 rfl ?_
      refine R_cV3v (N := m_X3_sayOrNot) dX3_plan_102 l_X3_60 i_X3_sayOrNot p0 (c_Planner_say (f := s_reach N F Q p r t 0 (s_wd Q 0)) (R := R) (w := w) (r := r) (by omega) hw (by omega) hk1 HP) rfl rfl (fun h102 q_102 => ?_)
      obtain ⟨A2, HP, s1, s2, s3, FR1⟩ := q_102
      have FR := FR.trans FR1
      have H := H0.kept (fun q q1 q2 => FR q (by omega))
      have HN := HN0.kept (fun q q1 q2 => FR q (by omega))
      have hk1 := (FR 1 (by omega)).trans hk0
      obtain ⟨h2, g0, g1, g2, g3, g4, g5, g6, g7, g8, g9, g10, g11⟩ := id H
      obtain ⟨h2n, n0, ⟨f1, n1, n1e⟩, n2, ⟨f3, n3, n3e⟩, n4, n5⟩ := id HN
      obtain ⟨hp2, p0, p1, p2, p3, p4⟩ := id HP
      have hA2 : x_bits (r + 1) w A2 (a_bf N D F (a_won N R F Q p) (k + 1)) := fun i j x hi hj hx => by
        by_cases e : i = r
        · subst e
          show _ = if j = 0 then decide (x = 0) else _
          by_cases e2 : j = 0
          · subst e2
            rw [s2, hA0 i hrR, s_lb_1 x hx, if_pos rfl]
          · have hle := s_clr_le (a_won N R F Q p (N - 1 - k) i) 6 x
            rw [if_neg e2, s3 j (by omega) hj, s_lb_or, s_winL_b _ _ 6 (by omega) x hx, hBb i j x hrR hj hx, hBb i (j - 1) _ hrR (by omega) (Nat.lt_of_le_of_lt (s_clr_le _ 6 x) hx), show N - 1 - k = t by omega]
            rfl
        · rw [s1 i j e]; exact hA i j x (by omega) hj hx
      have hA20 : ∀ i, i < R → A2 i 0 = lN 1 := fun i hi => by
        by_cases e : i = r
        · subst e; rw [s2]; exact hA0 i hi
        · rw [s1 i 0 e]; exact hA0 i hi
      refine R_aload_n dX3_plan_105 rfl ?_
      refine R_get dX3_plan_106 f_X3_64 g0 rfl ?_
      refine R_aload_n dX3_plan_109 rfl ?_
      refine R_get dX3_plan_110 f_X3_68 n0 rfl ?_
      refine R_iload_n dX3_plan_113 rfl ?_
      refine R_iald dX3_plan_114 n3 rfl (by omega) (by decide) ?_
      rw [n3e p (by omega)]
      refine R_aald dX3_plan_115 g10 (by omega) (fun _ => rfl) rfl rfl (by omega) (by decide) (if_pos (by omega)) ?_
      refine R_iload dX3_plan_116 rfl ?_
      refine R_iald dX3_plan_118 (g11 _ (by omega)) rfl (by omega) (by decide) ?_
      refine R_iload dX3_plan_119 rfl ?_
      refine R_aload_n dX3_plan_121 rfl ?_
      refine R_get dX3_plan_122 f_X3_45 n0 rfl ?_
      refine R_isubN dX3_plan_125 (by omega) ?_
      refine R_gtN 141 dX3_plan_126 rfl (by omega) (by omega) (fun c_126 => ?_) (fun c_126 => ?_)
      · refine R_iincN dX3_plan_141 rfl (Nat.le_of_ble_eq_true rfl) rfl ?_
        refine R_goto 77 dX3_plan_144 rfl ?_
        have hb2 : x_best (x_okp N R D F Q p m w) (fun x y => (t < x ∧ x < N ∧ y < R) ∨ (x = t ∧ y < (r + 1))) fw lt := hb.no (t := t) (r := r) (fun x y z => by omega) (fun x y z => by omega) (fun x y z => by omega) (fun j hj z => absurd z.2.2.2.1 (by omega)) (fun j z => by have := z.2.2.2.2.2.1; omega)
        exact ih (r + 1) (by omega) (by omega) _ _ _ HP hA2 hA20 hb2 FR
      · refine R_aload_n dX3_plan_129 rfl ?_
        refine R_iload dX3_plan_130 rfl ?_
        refine R_iload dX3_plan_132 rfl ?_
        refine R_iload dX3_plan_134 rfl ?_
        refine R_iload dX3_plan_136 rfl ?_
        refine R_cV4v (N := m_X3_take) dX3_plan_138 l_X3_72 i_X3_take p0 (c_Planner_take (hr := t) (by omega) hm hw hb.fw HP) rfl rfl (fun h138 q_138 => ?_)
        have hokb : ∀ j, (x_okp N R D F Q p m w) t r j ↔ (1 ≤ j ∧ j ≤ w ∧ s_lb (A2 r j) m = true) := fun j => by
          refine ⟨fun z => ⟨z.2.2.2.2.1, z.2.2.2.2.2.1, ?_⟩, fun z => ⟨by omega, by omega, hrR, by omega, z.1, z.2.1, ?_⟩⟩
          · rw [hA2 r j m (by omega) z.2.2.2.2.2.1 hm]; have z7 := z.2.2.2.2.2.2; rw [show N - t = k + 1 by omega] at z7; exact z7
          · rw [show N - t = k + 1 by omega]; rw [hA2 r j m (by omega) z.2.1 hm] at z; exact z.2.2
        rcases q_138 with ⟨rfl, hno⟩ | ⟨j, j1, j2, j3, j4, j5, HP2, FR2⟩
        · have hb2 : x_best (x_okp N R D F Q p m w) (fun x y => (t < x ∧ x < N ∧ y < R) ∨ (x = t ∧ y < (r + 1))) fw lt := hb.no (t := t) (r := r) (fun x y z => by omega) (fun x y z => by omega) (fun x y z => by omega) (fun j hj z => hno j ((hokb j).mp z).1 ((hokb j).mp z).2.1 ((hokb j).mp z).2.2) (fun j z => by have := ((hokb j).mp z).2.1; omega)
          refine R_iincN dX3_plan_141 rfl (Nat.le_of_ble_eq_true rfl) rfl ?_
          refine R_goto 77 dX3_plan_144 rfl ?_
          exact ih (r + 1) (by omega) (by omega) _ _ _ HP hA2 hA20 hb2 FR
        · have hb2 : x_best (x_okp N R D F Q p m w) (fun x y => (t < x ∧ x < N ∧ y < R) ∨ (x = t ∧ y < (r + 1))) (nI j) (nI t) := hb.yes (t := t) (r := r) (c := j) (fun x y z => by omega) (by omega) (by omega) ((hokb j).mpr ⟨j1, j2, j3⟩) (fun i hi z => by have z1 := (hokb i).mp z; rw [j4 i z1.1 hi] at z1; exact absurd z1.2.2 (by decide)) j5
          refine R_iincN dX3_plan_141 rfl (Nat.le_of_ble_eq_true rfl) rfl ?_
          refine R_goto 77 dX3_plan_144 rfl ?_
          exact ih (r + 1) (by omega) (by omega) _ _ _ HP2 hA2 hA20 hb2 (FR.trans FR2)
theorem x_jm1 {j : Nat} (hj : j < 1000) : nI j - nI 1 < nI j := by
  cases j with
  | zero => decide
  | succ j => rw [pk_sub (by omega)]; exact (nI_ltI (by omega) (by omega)).mpr (by omega)
theorem x_m1s (x : Int32) : x + -1 = x - nI 1 := by rw [Int32.sub_eq_add_neg]; rfl
theorem c_Planner_plan_h {h : xH} {a b c N R D P : Nat} {F : xF} {Q : xQ} {p m w : Nat} (H0 : x_House h b N R D P F) (hB : x_HB N R D P F) (HN0 : x_Night h c R P Q) (hQ : x_QB N R P Q) (hN : q_hr Q < N) (hp : p < P) (hm : m < 64) (hw : w ≤ 6) (hd1 : b + 22 ≤ a) (hd2 : c + 9 ≤ a) (hk0 : h[1]? = some (x_la 6 x_lack)) (sv : Int32) : ∀ (i : Nat), q_hr Q + i ≤ N → ∀ (A B : xA) (fw lt : Int32) (v8 : Option Value) {g : xH}, x_Plan g a fw lt A B → x_bits R w A (a_bf N D F (a_won N R F Q p) (N - (q_hr Q + i))) → (∀ i, i < R → A i 0 = lN 1) → x_best (x_okp N R D F Q p m w) (fun x y => q_hr Q + i ≤ x ∧ x < N ∧ y < R) fw lt → x_fr h g a 15 → x_Rn m_X3_plan 58 [some (.ref a), some (.ref b), some (.ref c), some (.int (nI p)), some (.int sv), some (.int (nI m)), some (.int (nI w)), some (.int (nI (q_hr Q + i) - nI 1)), v8] [] g (0, 0) (x_vd (fun h' => ∃ fw lt A B, x_Plan h' a fw lt A B ∧ x_best (x_okp N R D F Q p m w) (fun x y => q_hr Q ≤ x ∧ x < N ∧ y < R) fw lt ∧ x_fr h h' a 15)) := by
  intro i
  induction i with
  | zero =>
    intro hi A B fw lt v8 g HP hA hA0 hb FR
    have H := H0.kept (fun q q1 q2 => FR q (by omega))
    have HN := HN0.kept (fun q q1 q2 => FR q (by omega))
    have hk1 := (FR 1 (by omega)).trans hk0
    obtain ⟨h2, g0, g1, g2, g3, g4, g5, g6, g7, g8, g9, g10, g11⟩ := id H
    obtain ⟨h2n, n0, ⟨f1, n1, n1e⟩, n2, ⟨f3, n3, n3e⟩, n4, n5⟩ := id HN
    obtain ⟨⟨b1, b2, b3, b4⟩, b5, b6, b7⟩ := id hB
    obtain ⟨u1, u2, u3, u4, u5, u6, u7, u8, u9⟩ := id hQ
    refine R_iload dX3_plan_58 rfl ?_
    refine R_aload_n dX3_plan_60 rfl ?_
    refine R_get dX3_plan_61 f_X3_45 n0 rfl ?_
    refine R_icmplt 153 dX3_plan_64 rfl (fun c_64 => ?_) (fun c_64 => ?_)
    · exact R_vret dX3_plan_153 rfl rfl rfl ⟨rfl, fw, lt, A, B, HP, hb.eq (fun x y => by omega), FR⟩
    · exact absurd (x_jm1 (by omega)) c_64
  | succ i ih =>
    intro hi A B fw lt v8 g HP hA hA0 hb FR
    have H := H0.kept (fun q q1 q2 => FR q (by omega))
    have HN := HN0.kept (fun q q1 q2 => FR q (by omega))
    have hk1 := (FR 1 (by omega)).trans hk0
    obtain ⟨h2, g0, g1, g2, g3, g4, g5, g6, g7, g8, g9, g10, g11⟩ := id H
    obtain ⟨h2n, n0, ⟨f1, n1, n1e⟩, n2, ⟨f3, n3, n3e⟩, n4, n5⟩ := id HN
    obtain ⟨⟨b1, b2, b3, b4⟩, b5, b6, b7⟩ := id hB
    obtain ⟨u1, u2, u3, u4, u5, u6, u7, u8, u9⟩ := id hQ
    obtain ⟨hp2, p0, p1, p2, p3, p4⟩ := id HP
    rw [show nI (q_hr Q + (i + 1)) - nI 1 = nI (q_hr Q + i) from pk_sub (by omega)]
    rw [show N - (q_hr Q + (i + 1)) = N - 1 - (q_hr Q + i) by omega] at hA
    refine R_iload dX3_plan_58 rfl ?_
    refine R_aload_n dX3_plan_60 rfl ?_
    refine R_get dX3_plan_61 f_X3_45 n0 rfl ?_
    refine R_ltN 153 dX3_plan_64 rfl (by omega) (by omega) (fun c_64 => ?_) (fun c_64 => ?_)
    · omega
    · refine R_aload_n dX3_plan_67 rfl ?_
      refine R_aload_n dX3_plan_68 rfl ?_
      refine R_iload dX3_plan_69 rfl ?_
      refine R_cV2v (N := m_X3_goOrStay) dX3_plan_71 l_X3_50 i_X3_goOrStay p0 (c_Planner_go (α := (a_bf N D F (a_won N R F Q p) (N - 1 - (q_hr Q + i)))) (by omega) (by omega) hw hd1 (fun d hdd => ⟨(b5 d hdd).1, (b5 d hdd).2.1⟩) hA H HP) rfl rfl (fun h71 q_71 => ?_)
      obtain ⟨B2, HP, hBb, FR1⟩ := q_71
      have FR := FR.trans FR1
      refine R_iconst (nI 0) dX3_plan_74 rfl ?_
      refine R_istore dX3_plan_75 (Nat.le_of_ble_eq_true rfl) rfl ?_
      refine c_Planner_plan_r H0 hB HN0 hQ hN hp hm hw hd1 hd2 hk0 sv (t := q_hr Q + i) (k := N - 1 - (q_hr Q + i)) (by omega) (by omega) hBb (fun g A fw lt HP hA hA0 hb FR => ?_) (R + 1) 0 (by omega) (by omega) A fw lt HP (fun i j x hi => by omega) hA0 (hb.eq (fun x y => by omega)) FR
      refine R_iinc _ dX3_plan_147 rfl rfl (Nat.le_of_ble_eq_true rfl) rfl ?_
      refine R_goto 58 dX3_plan_150 rfl ?_
      rw [show nI (q_hr Q + i) + Int32.ofInt (-1) = nI (q_hr Q + i) - nI 1 from x_m1s _]
      rw [show N - 1 - (q_hr Q + i) + 1 = N - (q_hr Q + i) by omega] at hA
      exact ih (by omega) A B2 fw lt (some (.int (nI R))) HP hA hA0 (hb.eq (fun x y => by omega)) FR
theorem x_Rn.mono {M : xM} {pc : Nat} {lo : List (Option Value)} {st : List Value} {h : xH} {cs : Nat × Nat} {K K2 : Option Value → xH → Prop} (hk : ∀ v h', K v h' → K2 v h') (H : x_Rn M pc lo st h cs K) : x_Rn M pc lo st h cs K2 := by
  intro p l e s m args below meth c G Z H1 locs ls C hR hS hL
  exact H p l e s m args below meth c G Z H1 locs ls ⟨C.1, C.2.1, C.2.2.1, C.2.2.2.1, C.2.2.2.2.1, C.2.2.2.2.2.1, fun v h' H2 locs2 pc2 ls2 i kv => C.2.2.2.2.2.2 v h' H2 locs2 pc2 ls2 i (hk v h' kv)⟩ hR hS hL
theorem c_Planner_plan {h : xH} {a b c N R D P : Nat} {F : xF} {Q : xQ} {p : Nat} {t : Nat → Bool} {fw lt : Int32} {A B : xA} (H : x_House h b N R D P F) (hB : x_HB N R D P F) (HN : x_Night h c R P Q) (hQ : x_QB N R P Q) (hN : q_hr Q < N) (hp : p < P) (hd1 : b + 22 ≤ a) (hd2 : c + 9 ≤ a) (hk0 : h[1]? = some (x_la 6 x_lack)) (HP : x_Plan h a fw lt A B) : x_Met m_X3_plan [.ref a, .ref b, .ref c, .int (nI p), .int (s_set R t)] h (x_vd (fun h' => ∃ fw lt A B, x_Plan h' a fw lt A B ∧ (if (s_mask R (s_miss F Q p t)) = 0 then fw = nI 0 ∧ lt = -1 else x_best (x_okp N R D F Q p (s_mask R (s_miss F Q p t)) (s_cnt 6 (fun i => (s_mask R (s_miss F Q p t)).testBit i))) (fun x y => q_hr Q ≤ x ∧ x < N ∧ y < R) fw lt) ∧ x_fr h h' a 15)) := by
  have H0 := H
  have HN0 := HN
  obtain ⟨⟨b1, b2, b3, b4⟩, b5, b6, b7⟩ := id hB
  have hm := s_mask64 b2 (s_miss F Q p t)
  have em := s_set_mask (s_miss F Q p t) R (by omega)
  generalize s_mask R (s_miss F Q p t) = m at *
  obtain ⟨w, ew⟩ : ∃ w, w = s_cnt 6 (fun i => m.testBit i) := ⟨_, rfl⟩
  have hw : w ≤ 6 := by rw [ew]; exact s_cnt_le _ 6
  rw [← ew]
  have FR := x_fr.rf h a 15
  obtain ⟨hp2, p0, p1, p2, p3, p4⟩ := id HP
  refine x_Met.of (lo := [some (.ref a), some (.ref b), some (.ref c), some (.int (nI p)), some (.int (s_set R t)), none, none, none, none]) (by decide) rfl rfl rfl ?_
  refine R_aload_n dX3_plan_0 rfl ?_
  refine R_aload_n dX3_plan_1 rfl ?_
  refine R_aload_n dX3_plan_2 rfl ?_
  refine R_iload_n dX3_plan_3 rfl ?_
  refine R_iload dX3_plan_4 rfl ?_
  refine R_cV4p (N := m_X3_missingOf) dX3_plan_6 l_X3_26 i_X3_missingOf p0 (c_Planner_missingOf H hB HN hQ (t := t) hp) rfl rfl ?_
  rw [em]
  refine R_istore dX3_plan_9 (Nat.le_of_ble_eq_true rfl) rfl ?_
  refine R_aload_n dX3_plan_11 rfl ?_
  refine R_iload dX3_plan_12 rfl ?_
  refine R_ifneN 21 dX3_plan_14 rfl (by omega) (fun c_14 => ?_) (fun c_14 => ?_)
  · skip
    refine R_iconst (-1) dX3_plan_21 rfl ?_
    refine R_put dX3_plan_22 f_X3_9 p0 (Nat.le_of_ble_eq_true rfl) (fun _ => rfl) (fun _ => rfl) ?_
    simp only [List.set_cons_succ, List.set_cons_zero]
    have HP := HP.obj (-1) lt
    have FR := FR.set (a := a) (.inr (3, [.int (-1), .int lt, .ref (a + 1), .ref (a + 8)])) (by omega) (by omega)
    obtain ⟨hp2, p0, p1, p2, p3, p4⟩ := id HP
    refine R_aload_n dX3_plan_25 rfl ?_
    refine R_iconst (-1) dX3_plan_26 rfl ?_
    refine R_put dX3_plan_27 f_X3_15 p0 (Nat.le_of_ble_eq_true rfl) (fun _ => rfl) (fun _ => rfl) ?_
    simp only [List.set_cons_succ, List.set_cons_zero]
    have HP := HP.obj (-1) (-1)
    have FR := FR.set (a := a) (.inr (3, [.int (-1), .int (-1), .ref (a + 1), .ref (a + 8)])) (by omega) (by omega)
    obtain ⟨hp2, p0, p1, p2, p3, p4⟩ := id HP
    refine R_iload dX3_plan_30 rfl ?_
    refine R_ifneN 36 dX3_plan_32 rfl (by omega) (fun c_32 => ?_) (fun c_32 => ?_)
    · have H := H0.kept (fun q q1 q2 => FR q (by omega))
      have HN := HN0.kept (fun q q1 q2 => FR q (by omega))
      obtain ⟨h2, g0, g1, g2, g3, g4, g5, g6, g7, g8, g9, g10, g11⟩ := id H
      refine R_iload dX3_plan_36 rfl ?_
      refine R_cS1p (N := m_J6_bitCount_0f7a4) dX3_plan_38 l_X3_30 i_J6_bitCount_0f7a4 (c_bitCount_m hm) rfl rfl ?_
      rw [← ew]
      refine R_istore dX3_plan_41 (Nat.le_of_ble_eq_true rfl) rfl ?_
      refine R_aload_n dX3_plan_43 rfl ?_
      refine R_aload_n dX3_plan_44 rfl ?_
      refine R_iload dX3_plan_45 rfl ?_
      refine R_cV2v (N := m_X3_beginAtMorning) dX3_plan_47 l_X3_36 i_X3_beginAtMorning p0 (c_Planner_morning (by omega) hw hd1 H HP) rfl rfl (fun h47 q_47 => ?_)
      obtain ⟨A2, HP, hA, FR1⟩ := q_47
      have FR := FR.trans FR1
      have H := H0.kept (fun q q1 q2 => FR q (by omega))
      obtain ⟨h2, g0, g1, g2, g3, g4, g5, g6, g7, g8, g9, g10, g11⟩ := id H
      refine R_aload_n dX3_plan_50 rfl ?_
      refine R_get dX3_plan_51 f_X3_40 g0 rfl ?_
      refine R_iconst (nI 1) dX3_plan_54 rfl ?_
      refine R_isubN dX3_plan_55 (by omega) ?_
      refine R_istore dX3_plan_56 (Nat.le_of_ble_eq_true rfl) rfl ?_
      rw [show nI (N - 1) = nI (q_hr Q + (N - q_hr Q)) - nI 1 by rw [show q_hr Q + (N - q_hr Q) = (N - 1) + 1 by omega, pk_sub (by omega)]; rfl]
      refine x_Rn.mono (fun v h' z => ?_) (c_Planner_plan_h H0 hB HN0 hQ hN hp hm hw hd1 hd2 hk0 (s_set R t) (N - q_hr Q) (by omega) A2 B (-1) (-1) none HP (fun r j x hr hj hx => ?_) (fun r hr => hA r 0 hr (by omega)) (Or.inl ⟨rfl, rfl, fun x y j z => by omega⟩) FR)
      · obtain ⟨e, fw, lt, A, B, z1, z2, z3⟩ := z
        exact ⟨e, fw, lt, A, B, z1, by rw [if_neg c_14]; exact z2, z3⟩
      · rw [show N - (q_hr Q + (N - q_hr Q)) = 0 by omega, hA r j hr hj]; exact s_lb_1 x hx
    · exact absurd c_32 c_14
  · skip
    refine R_iconst (nI 0) dX3_plan_17 rfl ?_
    refine R_goto 22 dX3_plan_18 rfl ?_
    refine R_put dX3_plan_22 f_X3_9 p0 (Nat.le_of_ble_eq_true rfl) (fun _ => rfl) (fun _ => rfl) ?_
    simp only [List.set_cons_succ, List.set_cons_zero]
    have HP := HP.obj (nI 0) lt
    have FR := FR.set (a := a) (.inr (3, [.int (nI 0), .int lt, .ref (a + 1), .ref (a + 8)])) (by omega) (by omega)
    obtain ⟨hp2, p0, p1, p2, p3, p4⟩ := id HP
    refine R_aload_n dX3_plan_25 rfl ?_
    refine R_iconst (-1) dX3_plan_26 rfl ?_
    refine R_put dX3_plan_27 f_X3_15 p0 (Nat.le_of_ble_eq_true rfl) (fun _ => rfl) (fun _ => rfl) ?_
    simp only [List.set_cons_succ, List.set_cons_zero]
    have HP := HP.obj (nI 0) (-1)
    have FR := FR.set (a := a) (.inr (3, [.int (nI 0), .int (-1), .ref (a + 1), .ref (a + 8)])) (by omega) (by omega)
    obtain ⟨hp2, p0, p1, p2, p3, p4⟩ := id HP
    refine R_iload dX3_plan_30 rfl ?_
    refine R_ifneN 36 dX3_plan_32 rfl (by omega) (fun c_32 => ?_) (fun c_32 => ?_)
    · exact absurd c_14 c_32
    · skip
      exact R_vret dX3_plan_35 rfl rfl rfl ⟨rfl, _, _, _, _, HP, (by rw [if_pos c_14]; exact ⟨rfl, rfl⟩), FR⟩
