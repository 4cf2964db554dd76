theorem x_ofWF {l : Launch} {y : MethodName} {ws ws' : List Cond} {rm : Room} {Pc : Array Value → State → Prop} {Qc : Array Value → State → Outcome → State → Prop} {mc ms : Nat} {free : Addr → Prop} {cc : ByteArray} {maxL : Nat} {ret : Option FieldType}
    (hy : plainFor y = true) (hw : ws = Cond.code y cc maxL ret :: ws')
    (body : ∀ p e s m args below meth c s₁, BodyLoose p l y (headSpec ws rm) cc maxL ret e s m args below meth c s₁ → c.maxLocals = maxL → Pc args s →
      W p l e (headSpec ws rm).room s m args below meth c s.heap [] 0 0 (MQ below Qc args s mc ms free) (entryFrame m args maxL)) : Met l y ws rm Pc Qc mc ms free := by
  refine MetFree.of_bodySF (code := cc) (maxLocals := maxL) (ret := ret) hy ?_ ?_
  · intro args s m h hn
    obtain ⟨meth, c, h1, h2, h3, h4, h5, h6, -, -⟩ := Cond.code_spec hn (atoms_spec (ws := ws) h _ (by rw [hw]; exact List.mem_cons_self))
    exact ⟨meth, c, h1, h2, h3, h4, h5, h6⟩
  · intro p e s m args below meth c s₁ B hml hP _
    have hh0 : s₁.heap = s.heap := by rw [B.state]; rfl
    obtain ⟨t, a1, o, b1, b2, b3⟩ := body p e s m args below meth c s₁ B hml hP s₁ hh0 (Stand.of_body B)
    exact ⟨t, o, a1, b1, b2, ⟨b3.1, b3.2⟩⟩
/-- the same for a class of which the machine runs some methods itself, but not this one -/
theorem x_Met.ofF {M : xM} {av : List Value} {h : xH} {K : Option Value → xH → Prop} {lo : List (Option Value)} (hn : plainFor M.2.1 = true) (hcl : M.1 = M.2.1.cls) (hlo : x_lay M.2.2.2.1 av = lo) (hle : Nat.ble (x_lay1 av).length M.2.2.2.1 = true) (hrt : M.2.2.2.2.1 = some .int) (kk : x_Rn M 0 lo [] h (0, 0) K) : x_Met M av h K := by
  intro l G
  refine x_ofWF (cc := M.2.2.1) (maxL := M.2.2.2.1) (ret := M.2.2.2.2.1) hn rfl ?_
  intro p e s m args below meth c s₁ B hml hv
  obtain ⟨rfl, hR⟩ := hv
  have hts := atoms_spec (ws := Cond.code M.2.1 M.2.2.1 M.2.2.2.1 M.2.2.2.2.1 :: x_words) B.pre
  have hown : s.vm.findClass M.1 = some m.cls := by rw [hcl]; exact findClass_of_methodNamed B.named
  have hlocks := B.notSynchronized
  have hret := B.returns
  rw [lg_entry_eq]
  subst hlo
  refine kk p l e s m _ below meth c G _ s.heap [] _ ⟨B.exec, B.bytes, hml, hown, fun w hw => hts w (List.mem_cons_of_mem _ hw), (name_of_methodNamed B.named B.method).1, ?_⟩ hR va_S.rf (x_lay_entry G _ av (Nat.le_of_ble_eq_true hle))
  intro v h' H locs pc ls i hK hR' hS' hri hd
  rw [hrt] at hri hret
  obtain ⟨rfl, x, rfl⟩ := hri
  exact W.iret B.exec B.bytes hret (fun t ht hW => ⟨some (.int x), h', rfl, hK, by rw [ht]; exact hR'.warm hW, hS'.F ht⟩) hS'.2.2 hd
def s_bc0 (x : Int32) : Int32 := x - ((x.toUInt32 >>> ((nI 1).toUInt32 &&& Int32.toUInt32 31)).toInt32 &&& nI 1431655765)
def s_bc1 (x : Int32) : Int32 := (x &&& nI 858993459) + ((x.toUInt32 >>> ((nI 2).toUInt32 &&& Int32.toUInt32 31)).toInt32 &&& nI 858993459)
def s_bc2 (x : Int32) : Int32 := (x + (x.toUInt32 >>> ((nI 4).toUInt32 &&& Int32.toUInt32 31)).toInt32) &&& nI 252645135
def s_bc3 (x : Int32) : Int32 := x + (x.toUInt32 >>> ((nI 8).toUInt32 &&& Int32.toUInt32 31)).toInt32
def s_bc4 (x : Int32) : Int32 := x + (x.toUInt32 >>> ((nI 16).toUInt32 &&& Int32.toUInt32 31)).toInt32
theorem s_bc_ok : ∀ m, m < 64 → s_bc4 (s_bc3 (s_bc2 (s_bc1 (s_bc0 (nI m))))) &&& nI 63 = nI (s_cnt 6 (fun i => m.testBit i)) := by decide +kernel
theorem s_cnt_mask {n : Nat} (hn : n ≤ 6) (f : Nat → Bool) : s_cnt 6 (fun i => (s_mask n f).testBit i) = s_cnt n f := by
  have e : s_cnt 6 (fun i => (s_mask n f).testBit i) = s_cnt 6 (fun i => decide (i < n) && f i) := s_cnt_cong (fun i _ => s_mask_bit f i n)
  rw [e]
  have key : ∀ d, s_cnt (n + d) (fun i => decide (i < n) && f i) = s_cnt n f := by
    intro d
    induction d with
    | zero => exact s_cnt_cong (fun i hi => by simp [show i < n from hi])
    | succ d ih =>
      have e2 : ¬ (n + d < n) := by omega
      rw [show n + (d + 1) = (n + d) + 1 from rfl, s_cnt, if_neg (by simp [e2]), ih]
  have := key (6 - n)
  rw [show n + (6 - n) = 6 by omega] at this
  exact this
theorem c_bitCount_m {h : xH} {m : Nat} (hm : m < 64) : x_Met m_J6_bitCount_0f7a4 [.int (nI m)] h (x_pr (nI (s_cnt 6 (fun i => m.testBit i))) h) := by
  refine x_Met.of (lo := [some (.int (nI m))]) (by decide) rfl rfl rfl ?_
  refine R_iload_n dJ6_bitCount_0f7a4_0 rfl ?_
  refine R_iload_n dJ6_bitCount_0f7a4_1 rfl ?_
  refine R_iconst (nI 1) dJ6_bitCount_0f7a4_2 rfl ?_
  refine R_iushr dJ6_bitCount_0f7a4_3 ?_
  refine R_ldcw (nI 1431655765) dJ6_bitCount_0f7a4_4 k_J6_265 ?_
  refine R_iand dJ6_bitCount_0f7a4_7 ?_
  refine R_isub dJ6_bitCount_0f7a4_8 ?_
  refine R_istore_n dJ6_bitCount_0f7a4_9 (Nat.le_of_ble_eq_true rfl) rfl ?_
  refine R_iload_n dJ6_bitCount_0f7a4_10 rfl ?_
  refine R_ldcw (nI 858993459) dJ6_bitCount_0f7a4_11 k_J6_266 ?_
  refine R_iand dJ6_bitCount_0f7a4_14 ?_
  refine R_iload_n dJ6_bitCount_0f7a4_15 rfl ?_
  refine R_iconst (nI 2) dJ6_bitCount_0f7a4_16 rfl ?_
  refine R_iushr dJ6_bitCount_0f7a4_17 ?_
  refine R_ldcw (nI 858993459) dJ6_bitCount_0f7a4_18 k_J6_266 ?_
  refine R_iand dJ6_bitCount_0f7a4_21 ?_
  refine R_iadd dJ6_bitCount_0f7a4_22 ?_
  refine R_istore_n dJ6_bitCount_0f7a4_23 (Nat.le_of_ble_eq_true rfl) rfl ?_
  refine R_iload_n dJ6_bitCount_0f7a4_24 rfl ?_
  refine R_iload_n dJ6_bitCount_0f7a4_25 rfl ?_
  refine R_iconst (nI 4) dJ6_bitCount_0f7a4_26 rfl ?_
  refine R_iushr dJ6_bitCount_0f7a4_27 ?_
  refine R_iadd dJ6_bitCount_0f7a4_28 ?_
  refine R_ldcw (nI 252645135) dJ6_bitCount_0f7a4_29 k_J6_267 ?_
  refine R_iand dJ6_bitCount_0f7a4_32 ?_
  refine R_istore_n dJ6_bitCount_0f7a4_33 (Nat.le_of_ble_eq_true rfl) rfl ?_
  refine R_iload_n dJ6_bitCount_0f7a4_34 rfl ?_
  refine R_iload_n dJ6_bitCount_0f7a4_35 rfl ?_
  refine R_bipush (nI 8) dJ6_bitCount_0f7a4_36 rfl ?_
  refine R_iushr dJ6_bitCount_0f7a4_38 ?_
  refine R_iadd dJ6_bitCount_0f7a4_39 ?_
  refine R_istore_n dJ6_bitCount_0f7a4_40 (Nat.le_of_ble_eq_true rfl) rfl ?_
  refine R_iload_n dJ6_bitCount_0f7a4_41 rfl ?_
  refine R_iload_n dJ6_bitCount_0f7a4_42 rfl ?_
  refine R_bipush (nI 16) dJ6_bitCount_0f7a4_43 rfl ?_
  refine R_iushr dJ6_bitCount_0f7a4_45 ?_
  refine R_iadd dJ6_bitCount_0f7a4_46 ?_
  refine R_istore_n dJ6_bitCount_0f7a4_47 (Nat.le_of_ble_eq_true rfl) rfl ?_
  refine R_iload_n dJ6_bitCount_0f7a4_48 rfl ?_
  refine R_bipush (nI 63) dJ6_bitCount_0f7a4_49 rfl ?_
  refine R_iand dJ6_bitCount_0f7a4_51 ?_
  exact R_iret dJ6_bitCount_0f7a4_52 rfl rfl rfl (x_pr.eq (s_bc_ok m hm))
theorem c_bitCount {h : xH} {n : Nat} (hn : n ≤ 6) (f : Nat → Bool) : x_Met m_J6_bitCount_0f7a4 [.int (s_set n f)] h (x_pr (nI (s_cnt n f)) h) := by
  rw [s_set_mask f n (by omega), ← s_cnt_mask hn f]
  exact c_bitCount_m (s_mask64 hn f)
theorem c_max {h : xH} {a b : Nat} (ha : a < 1000) (hb : b < 1000) : x_Met m_J9_max_7cf53 [.int (nI a), .int (nI b)] h (x_pr (nI (max a b)) h) := by

  refine x_Met.ofF (lo := [some (.int (nI a)), some (.int (nI b))]) (by decide +kernel) rfl rfl rfl rfl ?_
  refine R_iload_n dJ9_max_7cf53_0 rfl ?_
  refine R_iload_n dJ9_max_7cf53_1 rfl ?_
  refine R_ltN 9 dJ9_max_7cf53_2 rfl (by omega) (by omega) (fun c_2 => ?_) (fun c_2 => ?_)
  · refine R_iload_n dJ9_max_7cf53_9 rfl ?_
    exact R_iret dJ9_max_7cf53_10 rfl rfl rfl (x_pr.eq (congrArg nI (by omega)))
  · refine R_iload_n dJ9_max_7cf53_5 rfl ?_
    refine R_goto 10 dJ9_max_7cf53_6 rfl ?_
    exact R_iret dJ9_max_7cf53_10 rfl rfl rfl (x_pr.eq (congrArg nI (by omega)))
theorem c_min {h : xH} {a b : Nat} (ha : a < 1000) (hb : b < 1000) : x_Met m_J9_min_7cf53 [.int (nI a), .int (nI b)] h (x_pr (nI (min a b)) h) := by

  refine x_Met.ofF (lo := [some (.int (nI a)), some (.int (nI b))]) (by decide +kernel) rfl rfl rfl rfl ?_
  refine R_iload_n dJ9_min_7cf53_0 rfl ?_
  refine R_iload_n dJ9_min_7cf53_1 rfl ?_
  refine R_gtN 9 dJ9_min_7cf53_2 rfl (by omega) (by omega) (fun c_2 => ?_) (fun c_2 => ?_)
  · refine R_iload_n dJ9_min_7cf53_9 rfl ?_
    exact R_iret dJ9_min_7cf53_10 rfl rfl rfl (x_pr.eq (congrArg nI (by omega)))
  · refine R_iload_n dJ9_min_7cf53_5 rfl ?_
    refine R_goto 10 dJ9_min_7cf53_6 rfl ?_
    exact R_iret dJ9_min_7cf53_10 rfl rfl rfl (x_pr.eq (congrArg nI (by omega)))
theorem s_fmA : ∀ a, a < 30 → ∀ n, n < 31 → (0 : Int32) ≤ ((nI a - nI n) ^^^ nI 30) → (nI a - nI n) - (nI a - nI n) / nI 30 * nI 30 = nI ((a + 30 - n) % 30) := by decide +kernel
theorem s_fmB : ∀ a, a < 30 → ∀ n, n < 31 → ¬ (0 : Int32) ≤ ((nI a - nI n) ^^^ nI 30) → (nI a - nI n) - (nI a - nI n) / nI 30 * nI 30 = 0 → (nI a - nI n) - (nI a - nI n) / nI 30 * nI 30 = nI ((a + 30 - n) % 30) := by decide +kernel
theorem s_fmC : ∀ a, a < 30 → ∀ n, n < 31 → ¬ (0 : Int32) ≤ ((nI a - nI n) ^^^ nI 30) → ¬ (nI a - nI n) - (nI a - nI n) / nI 30 * nI 30 = 0 → ((nI a - nI n) - (nI a - nI n) / nI 30 * nI 30) + nI 30 = nI ((a + 30 - n) % 30) := by decide +kernel
theorem c_floorMod {h : xH} {a n : Nat} (ha : a < 30) (hn : n < 31) : x_Met m_J9_floorMod_7cf53 [.int (nI a - nI n), .int (nI 30)] h (x_pr (nI ((a + 30 - n) % 30)) h) := by
  refine x_Met.ofF (lo := [some (.int (nI a - nI n)), some (.int (nI 30)), none]) (by decide +kernel) rfl rfl rfl rfl ?_
  refine R_iload_n dJ9_floorMod_7cf53_0 rfl ?_
  refine R_iload_n dJ9_floorMod_7cf53_1 rfl ?_
  refine R_irem dJ9_floorMod_7cf53_2 (by decide) ?_
  refine R_istore_n dJ9_floorMod_7cf53_3 (Nat.le_of_ble_eq_true rfl) rfl ?_
  refine R_iload_n dJ9_floorMod_7cf53_4 rfl ?_
  refine R_iload_n dJ9_floorMod_7cf53_5 rfl ?_
  refine R_ixor dJ9_floorMod_7cf53_6 ?_
  refine R_ifge 18 dJ9_floorMod_7cf53_7 rfl (fun c_7 => ?_) (fun c_7 => ?_)
  · refine R_iload_n dJ9_floorMod_7cf53_18 rfl ?_
    exact R_iret dJ9_floorMod_7cf53_19 rfl rfl rfl (x_pr.eq (s_fmA a ha n hn c_7))
  · refine R_iload_n dJ9_floorMod_7cf53_10 rfl ?_
    refine R_ifeq 18 dJ9_floorMod_7cf53_11 rfl (fun c_11 => ?_) (fun c_11 => ?_)
    · refine R_iload_n dJ9_floorMod_7cf53_18 rfl ?_
      exact R_iret dJ9_floorMod_7cf53_19 rfl rfl rfl (x_pr.eq (s_fmB a ha n hn c_7 c_11))
    · refine R_iload_n dJ9_floorMod_7cf53_14 rfl ?_
      refine R_iload_n dJ9_floorMod_7cf53_15 rfl ?_
      refine R_iadd dJ9_floorMod_7cf53_16 ?_
      exact R_iret dJ9_floorMod_7cf53_17 rfl rfl rfl (x_pr.eq (s_fmC a ha n hn c_7 c_11))
theorem c_fill_loop {h : xH} {a n : Nat} {f : Nat → Int32} {x : Int32} (h2 : 2 ≤ a) (hl : a < h.length) (hn : n < 1000) : ∀ (k i : Nat), i ≤ n → n + 1 ≤ i + k → x_Rn m_J7_fill_53178 5 [some (.ref a), some (.int x), some (.int (nI i)), some (.int (nI n))] [] (h.set a (x_ia n (fun j => if j < i then x else f j))) (0, 0) (x_vd (fun h' => h' = h.set a (x_ia n (fun _ => x)))) := by
  intro k
  induction k with
  | zero => intro i h1 h3; omega
  | succ k ih =>
    intro i h1 h3
    refine R_iload_n dJ7_fill_53178_5 rfl ?_
    refine R_iload_n dJ7_fill_53178_6 rfl ?_
    refine R_geN 20 dJ7_fill_53178_7 rfl (by omega) (by omega) (fun c_7 => ?_) (fun c_7 => ?_)
    · have e : i = n := by omega
      subst e
      refine R_alk h2 (x_alk.I (g := fun _ => x) (fun j hj => if_pos hj)) ?_
      exact R_vret dJ7_fill_53178_20 rfl rfl rfl ⟨rfl, rfl⟩
    · refine R_aload_n dJ7_fill_53178_10 rfl ?_
      refine R_iload_n dJ7_fill_53178_11 rfl ?_
      refine R_iload_n dJ7_fill_53178_12 rfl ?_
      refine R_iast dJ7_fill_53178_13 (List.getElem?_set_self hl) (by omega) rfl (by omega) (by omega) ?_
      refine R_alk h2 (x_alk.I (g := fun j => if j < i + 1 then x else f j) (fun j _ => ?_)) ?_
      · by_cases e : j = i
        · subst e; simp [upd]
        · have e1 : (j < i + 1) = (j < i) := by simp; omega
          simp [upd, e, e1]
      rw [List.set_set]
      refine R_iincN dJ7_fill_53178_14 rfl (Nat.le_of_ble_eq_true rfl) rfl ?_
      refine R_goto 5 dJ7_fill_53178_17 rfl ?_
      exact ih (i + 1) (by omega) (by omega)
theorem c_fill {h : xH} {a n : Nat} {f : Nat → Int32} (g : h[a]? = some (x_ia n f)) (h2 : 2 ≤ a) (hn : n < 1000) (x : Int32) : x_Met m_J7_fill_53178 [.ref a, .int x] h (x_vd (fun h' => h' = h.set a (x_ia n (fun _ => x)))) := by
  refine x_Met.of (lo := [some (.ref a), some (.int x), none, none]) (by decide) rfl rfl rfl ?_
  refine R_iconst (nI 0) dJ7_fill_53178_0 rfl ?_
  refine R_istore_n dJ7_fill_53178_1 (Nat.le_of_ble_eq_true rfl) rfl ?_
  refine R_aload_n dJ7_fill_53178_2 rfl ?_
  refine R_alen dJ7_fill_53178_3 g ?_
  refine R_istore_n dJ7_fill_53178_4 (Nat.le_of_ble_eq_true rfl) rfl ?_
  have e := c_fill_loop (f := f) (x := x) h2 (List.getElem?_eq_some_iff.mp g).1 hn (n + 1) 0 (by omega) (by omega)
  rw [show (fun j => if j < 0 then x else f j) = f from funext (fun j => if_neg (by omega)), x_same g] at e
  exact e
theorem c_Night_isSure_loop {h : xH} {c R P : Nat} {Q : xQ} (HN : x_Night h c R P Q) {r : Nat} (hr : r < 6) : ∀ (n k : Nat), k ≤ 4 → 5 ≤ k + n → (∀ i, i < k → s_will Q r i = s_will Q r 0) → x_Rn m_X2_isSure 9 [some (.ref c), some (.int (nI r)), some (.int (s_will Q r 0)), some (.int (nI k))] [] h (0, 0) (x_pr (x_b (s_sure Q r)) h) := by
  obtain ⟨h2n, n0, ⟨f1, n1, n1e⟩, n2, ⟨f3, n3, n3e⟩, n4, n5⟩ := id HN
  intro n
  induction n with
  | zero => intro k h1 h3; omega
  | succ n ih =>
    intro k h1 h3 hs
    refine R_iload_n dX2_isSure_9 rfl ?_
    refine R_iconst (nI 4) dX2_isSure_10 rfl ?_
    refine R_geN 32 dX2_isSure_11 rfl (by omega) (by omega) (fun c_11 => ?_) (fun c_11 => ?_)
    · have e : k = 4 := by omega
      subst e
      refine R_iload_n dX2_isSure_32 rfl ?_
      refine R_iconst (-1) dX2_isSure_33 rfl ?_
      refine R_icmpeq 41 dX2_isSure_34 rfl (fun c_34 => ?_) (fun c_34 => ?_)
      · refine R_iconst (nI 0) dX2_isSure_41 rfl ?_
        exact R_zret dX2_isSure_42 rfl (Or.inl rfl) rfl rfl (x_pr.eq (x_bf (decide_eq_false (fun z => z.2.2.2 c_34))))
      · refine R_iconst (nI 1) dX2_isSure_37 rfl ?_
        refine R_goto 42 dX2_isSure_38 rfl ?_
        exact R_zret dX2_isSure_42 rfl (Or.inr rfl) rfl rfl (x_pr.eq (x_bt (decide_eq_true ⟨hs 1 (by omega), hs 2 (by omega), hs 3 (by omega), c_34⟩)))
    · refine R_aload_n dX2_isSure_14 rfl ?_
      refine R_iload_n dX2_isSure_15 rfl ?_
      refine R_iload_n dX2_isSure_16 rfl ?_
      refine R_cV2p (N := m_X2_will) dX2_isSure_17 l_X2_66 i_X2_will n0 (c_Night_will HN hr (k := k) (by omega)) rfl rfl ?_
      refine R_iload_n dX2_isSure_20 rfl ?_
      refine R_icmpeq 26 dX2_isSure_21 rfl (fun c_21 => ?_) (fun c_21 => ?_)
      · refine R_iincN dX2_isSure_26 rfl (Nat.le_of_ble_eq_true rfl) rfl ?_
        refine R_goto 9 dX2_isSure_29 rfl ?_
        exact ih (k + 1) (by omega) (by omega) (fun i hi => by
          by_cases e : i = k
          · subst e; exact c_21
          · exact hs i (by omega))
      · refine R_iconst (nI 0) dX2_isSure_24 rfl ?_
        exact R_zret dX2_isSure_25 rfl (Or.inl rfl) rfl rfl (x_pr.eq (x_bf (decide_eq_false (fun z => c_21 (by
                obtain ⟨z1, z2, z3, z4⟩ := z
                rcases (show k = 0 ∨ k = 1 ∨ k = 2 ∨ k = 3 by omega) with rfl | rfl | rfl | rfl
                · rfl
                · exact z1
                · exact z2
                · exact z3)))))
theorem c_Night_isSure {h : xH} {c R P : Nat} {Q : xQ} (HN : x_Night h c R P Q) {r : Nat} (hr : r < 6) : x_Met m_X2_isSure [.ref c, .int (nI r)] h (x_pr (x_b (s_sure Q r)) h) := by
  obtain ⟨h2n, n0, ⟨f1, n1, n1e⟩, n2, ⟨f3, n3, n3e⟩, n4, n5⟩ := id HN
  refine x_Met.of (lo := [some (.ref c), some (.int (nI r)), none, none]) (by decide) rfl rfl rfl ?_
  refine R_aload_n dX2_isSure_0 rfl ?_
  refine R_iload_n dX2_isSure_1 rfl ?_
  refine R_iconst (nI 0) dX2_isSure_2 rfl ?_
  refine R_cV2p (N := m_X2_will) dX2_isSure_3 l_X2_66 i_X2_will n0 (c_Night_will HN hr (k := 0) (by omega)) rfl rfl ?_
  refine R_istore_n dX2_isSure_6 (Nat.le_of_ble_eq_true rfl) rfl ?_
  refine R_iconst (nI 0) dX2_isSure_7 rfl ?_
  refine R_istore_n dX2_isSure_8 (Nat.le_of_ble_eq_true rfl) rfl ?_
  exact c_Night_isSure_loop HN hr 5 0 (by omega) (by omega) (fun i hi => by omega)
theorem c_Night_sure_loop {h : xH} {b c N R D P : Nat} {F : xF} {Q : xQ} (H : x_House h b N R D P F) (hB : x_HB N R D P F) (HN : x_Night h c R P Q) (hQ : x_QB N R P Q) : ∀ (n r : Nat), r ≤ R → R + 1 ≤ r + n → x_Rn m_X2_sure 4 [some (.ref c), some (.ref b), some (.int (s_set r (s_sure Q))), some (.int (nI r))] [] h (0, 0) (x_pr (s_set R (s_sure Q)) h) := by
  obtain ⟨h2, g0, g1, g2, g3, g4, g5, g6, g7, g8, g9, g10, g11⟩ := id H
  obtain ⟨⟨b1, b2, b3, b4⟩, b5, b6, b7⟩ := id hB
  obtain ⟨h2n, n0, ⟨f1, n1, n1e⟩, n2, ⟨f3, n3, n3e⟩, n4, n5⟩ := id HN
  obtain ⟨u1, u2, u3, u4, u5, u6, u7, u8, u9⟩ := id hQ
  intro n
  induction n with
  | zero => intro r h1 h3; omega
  | succ n ih =>
    intro r h1 h3
    refine R_iload_n dX2_sure_4 rfl ?_
    refine R_aload_n dX2_sure_5 rfl ?_
    refine R_get dX2_sure_6 f_X2_63 g0 rfl ?_
    refine R_geN 32 dX2_sure_9 rfl (by omega) (by omega) (fun c_9 => ?_) (fun c_9 => ?_)
    · have e : r = R := by omega
      subst e
      refine R_iload_n dX2_sure_32 rfl ?_
      exact R_iret dX2_sure_33 rfl rfl rfl x_pr.mk
    · have hr : r < R := by omega
      refine R_aload_n dX2_sure_12 rfl ?_
      refine R_iload_n dX2_sure_13 rfl ?_
      refine R_cV1p (N := m_X2_isSure) dX2_sure_14 l_X2_98 i_X2_isSure n0 (c_Night_isSure HN (by omega)) rfl rfl ?_
      refine R_ifeqB 26 dX2_sure_17 rfl (fun c_17 => ?_) (fun c_17 => ?_)
      · rw [s_set_f c_17]
        refine R_iincN dX2_sure_26 rfl (Nat.le_of_ble_eq_true rfl) rfl ?_
        refine R_goto 4 dX2_sure_29 rfl ?_
        exact ih (r + 1) (by omega) (by omega)
      · refine R_iload_n dX2_sure_20 rfl ?_
        refine R_iconst (nI 1) dX2_sure_21 rfl ?_
        refine R_iload_n dX2_sure_22 rfl ?_
        refine R_ishl dX2_sure_23 ?_
        refine R_ior dX2_sure_24 ?_
        rw [s_set_t c_17]
        refine R_istore_n dX2_sure_25 (Nat.le_of_ble_eq_true rfl) rfl ?_
        refine R_iincN dX2_sure_26 rfl (Nat.le_of_ble_eq_true rfl) rfl ?_
        refine R_goto 4 dX2_sure_29 rfl ?_
        exact ih (r + 1) (by omega) (by omega)
theorem c_Night_sure {h : xH} {b c N R D P : Nat} {F : xF} {Q : xQ} (H : x_House h b N R D P F) (hB : x_HB N R D P F) (HN : x_Night h c R P Q) (hQ : x_QB N R P Q) : x_Met m_X2_sure [.ref c, .ref b] h (x_pr (s_set R (s_sure Q)) h) := by

  refine x_Met.of (lo := [some (.ref c), some (.ref b), none, none]) (by decide) rfl rfl rfl ?_
  refine R_iconst (nI 0) dX2_sure_0 rfl ?_
  refine R_istore_n dX2_sure_1 (Nat.le_of_ble_eq_true rfl) rfl ?_
  refine R_iconst (nI 0) dX2_sure_2 rfl ?_
  refine R_istore_n dX2_sure_3 (Nat.le_of_ble_eq_true rfl) rfl ?_
  exact c_Night_sure_loop H hB HN hQ (R + 1) 0 (by omega) (by omega)
theorem c_Night_holdings_loop {h : xH} {b c N R D P : Nat} {F : xF} {Q : xQ} (H : x_House h b N R D P F) (hB : x_HB N R D P F) (HN : x_Night h c R P Q) (hQ : x_QB N R P Q) (q : Int32) : ∀ (n r : Nat), r ≤ R → R + 1 ≤ r + n → x_Rn m_X2_holdings 5 [some (.ref c), some (.ref b), some (.int q), some (.int (s_set r (s_own Q q))), some (.int (nI r))] [] h (0, 0) (x_pr (s_set R (s_own Q q)) h) := by
  obtain ⟨h2, g0, g1, g2, g3, g4, g5, g6, g7, g8, g9, g10, g11⟩ := id H
  obtain ⟨⟨b1, b2, b3, b4⟩, b5, b6, b7⟩ := id hB
  obtain ⟨h2n, n0, ⟨f1, n1, n1e⟩, n2, ⟨f3, n3, n3e⟩, n4, n5⟩ := id HN
  obtain ⟨u1, u2, u3, u4, u5, u6, u7, u8, u9⟩ := id hQ
  intro n
  induction n with
  | zero => intro r h1 h3; omega
  | succ n ih =>
    intro r h1 h3
    refine R_iload dX2_holdings_5 rfl ?_
    refine R_aload_n dX2_holdings_7 rfl ?_
    refine R_get dX2_holdings_8 f_X2_63 g0 rfl ?_
    refine R_geN 38 dX2_holdings_11 rfl (by omega) (by omega) (fun c_11 => ?_) (fun c_11 => ?_)
    · have e : r = R := by omega
      subst e
      refine R_iload_n dX2_holdings_38 rfl ?_
      exact R_iret dX2_holdings_39 rfl rfl rfl x_pr.mk
    · have hr : r < R := by omega
      refine R_aload_n dX2_holdings_14 rfl ?_
      refine R_get dX2_holdings_15 f_X2_28 n0 rfl ?_
      refine R_iload dX2_holdings_18 rfl ?_
      refine R_iald dX2_holdings_20 n2 rfl (by omega) (by decide) ?_
      refine R_iload_n dX2_holdings_21 rfl ?_
      refine R_icmpne 32 dX2_holdings_22 rfl (fun c_22 => ?_) (fun c_22 => ?_)
      · rw [s_set_f (decide_eq_false c_22)]
        refine R_iincN dX2_holdings_32 rfl (Nat.le_of_ble_eq_true rfl) rfl ?_
        refine R_goto 5 dX2_holdings_35 rfl ?_
        exact ih (r + 1) (by omega) (by omega)
      · refine R_iload_n dX2_holdings_25 rfl ?_
        refine R_iconst (nI 1) dX2_holdings_26 rfl ?_
        refine R_iload dX2_holdings_27 rfl ?_
        refine R_ishl dX2_holdings_29 ?_
        refine R_ior dX2_holdings_30 ?_
        rw [s_set_t (f := s_own Q q) (decide_eq_true c_22)]
        refine R_istore_n dX2_holdings_31 (Nat.le_of_ble_eq_true rfl) rfl ?_
        refine R_iincN dX2_holdings_32 rfl (Nat.le_of_ble_eq_true rfl) rfl ?_
        refine R_goto 5 dX2_holdings_35 rfl ?_
        exact ih (r + 1) (by omega) (by omega)
theorem c_Night_holdings {h : xH} {b c N R D P : Nat} {F : xF} {Q : xQ} (H : x_House h b N R D P F) (hB : x_HB N R D P F) (HN : x_Night h c R P Q) (hQ : x_QB N R P Q) (q : Int32) : x_Met m_X2_holdings [.ref c, .ref b, .int q] h (x_pr (s_set R (s_own Q q)) h) := by

  refine x_Met.of (lo := [some (.ref c), some (.ref b), some (.int q), none, none]) (by decide) rfl rfl rfl ?_
  refine R_iconst (nI 0) dX2_holdings_0 rfl ?_
  refine R_istore_n dX2_holdings_1 (Nat.le_of_ble_eq_true rfl) rfl ?_
  refine R_iconst (nI 0) dX2_holdings_2 rfl ?_
  refine R_istore dX2_holdings_3 (Nat.le_of_ble_eq_true rfl) rfl ?_
  exact c_Night_holdings_loop H hB HN hQ q (R + 1) 0 (by omega) (by omega)
theorem c_Night_worth_loop {h : xH} {b c N R D P : Nat} {F : xF} {Q : xQ} (H : x_House h b N R D P F) (hB : x_HB N R D P F) (HN : x_Night h c R P Q) (hQ : x_QB N R P Q) {r : Nat} (hr : r < R) : ∀ (n p : Nat), p ≤ P → P + 1 ≤ p + n → x_Rn m_X2_worth 5 [some (.ref c), some (.ref b), some (.int (nI r)), some (.int (nI (s_cnt p (s_worth F Q r)))), some (.int (nI p))] [] h (0, 0) (x_pr (nI (s_cnt P (s_worth F Q r))) h) := by
  obtain ⟨h2, g0, g1, g2, g3, g4, g5, g6, g7, g8, g9, g10, g11⟩ := id H
  obtain ⟨⟨b1, b2, b3, b4⟩, b5, b6, b7⟩ := id hB
  obtain ⟨h2n, n0, ⟨f1, n1, n1e⟩, n2, ⟨f3, n3, n3e⟩, n4, n5⟩ := id HN
  obtain ⟨u1, u2, u3, u4, u5, u6, u7, u8, u9⟩ := id hQ
  intro n
  induction n with
  | zero => intro p h1 h3; omega
  | succ n ih =>
    intro p h1 h3
    refine R_iload dX2_worth_5 rfl ?_
    refine R_aload_n dX2_worth_7 rfl ?_
    refine R_get dX2_worth_8 f_X2_101 g0 rfl ?_
    refine R_geN 40 dX2_worth_11 rfl (by omega) (by omega) (fun c_11 => ?_) (fun c_11 => ?_)
    · have e : p = P := by omega
      subst e
      refine R_iload_n dX2_worth_40 rfl ?_
      exact R_iret dX2_worth_41 rfl rfl rfl x_pr.mk
    · have hp : p < P := by omega
      refine R_aload_n dX2_worth_14 rfl ?_
      refine R_iload dX2_worth_15 rfl ?_
      refine R_aload_n dX2_worth_17 rfl ?_
      refine R_get dX2_worth_18 f_X2_31 n0 rfl ?_
      refine R_iload dX2_worth_21 rfl ?_
      refine R_iald dX2_worth_23 n3 rfl (by omega) (by decide) ?_
      rw [n3e p (by omega)]
      refine R_iload_n dX2_worth_24 rfl ?_
      refine R_cV3p (N := m_X1_isHeard) dX2_worth_25 l_X2_104 i_X1_isHeard g0 (c_House_isHeard H hB hp (u6 p hp) hr) rfl rfl ?_
      refine R_ifeqB 34 dX2_worth_28 rfl (fun c_28 => ?_) (fun c_28 => ?_)
      · rw [show s_cnt p (s_worth F Q r) = s_cnt (p + 1) (s_worth F Q r) from by rw [s_cnt, if_neg (by unfold s_worth; rw [c_28]; decide)]]
        refine R_iincN dX2_worth_34 rfl (Nat.le_of_ble_eq_true rfl) rfl ?_
        refine R_goto 5 dX2_worth_37 rfl ?_
        exact ih (p + 1) (by omega) (by omega)
      · refine R_iincN dX2_worth_31 rfl (Nat.le_of_ble_eq_true rfl) rfl ?_
        rw [show s_cnt p (s_worth F Q r) + 1 = s_cnt (p + 1) (s_worth F Q r) from by rw [s_cnt, if_pos (show s_worth F Q r p = true from c_28)]]
        refine R_iincN dX2_worth_34 rfl (Nat.le_of_ble_eq_true rfl) rfl ?_
        refine R_goto 5 dX2_worth_37 rfl ?_
        exact ih (p + 1) (by omega) (by omega)
theorem c_Night_worth {h : xH} {b c N R D P : Nat} {F : xF} {Q : xQ} (H : x_House h b N R D P F) (hB : x_HB N R D P F) (HN : x_Night h c R P Q) (hQ : x_QB N R P Q) {r : Nat} (hr : r < R) : x_Met m_X2_worth [.ref c, .ref b, .int (nI r)] h (x_pr (nI (s_cnt P (s_worth F Q r))) h) := by

  refine x_Met.of (lo := [some (.ref c), some (.ref b), some (.int (nI r)), none, none]) (by decide) rfl rfl rfl ?_
  refine R_iconst (nI 0) dX2_worth_0 rfl ?_
  refine R_istore_n dX2_worth_1 (Nat.le_of_ble_eq_true rfl) rfl ?_
  refine R_iconst (nI 0) dX2_worth_2 rfl ?_
  refine R_istore dX2_worth_3 (Nat.le_of_ble_eq_true rfl) rfl ?_
  exact c_Night_worth_loop H hB HN hQ hr (P + 1) 0 (by omega) (by omega)
theorem s_hold_le (R : Nat) (Q : xQ) : ∀ p, (s_hold R Q p).2 ≤ R
  | 0 => Nat.zero_le _
  | p + 1 => by
    rw [s_hold]
    split
    · exact s_cnt_le _ R
    · exact s_hold_le R Q p
theorem c_Night_holder_loop {h : xH} {b c N R D P : Nat} {F : xF} {Q : xQ} (H : x_House h b N R D P F) (hB : x_HB N R D P F) (HN : x_Night h c R P Q) (hQ : x_QB N R P Q) : ∀ (n p : Nat), p ≤ P → P + 1 ≤ p + n → ∀ v5 : Option Value, x_Rn m_X2_holder 7 [some (.ref c), some (.ref b), some (.int (s_hold R Q p).1), some (.int (nI (s_hold R Q p).2)), some (.int (nI p)), v5] [] h (0, 0) (x_pr (s_hold R Q P).1 h) := by
  obtain ⟨h2, g0, g1, g2, g3, g4, g5, g6, g7, g8, g9, g10, g11⟩ := id H
  obtain ⟨⟨b1, b2, b3, b4⟩, b5, b6, b7⟩ := id hB
  obtain ⟨h2n, n0, ⟨f1, n1, n1e⟩, n2, ⟨f3, n3, n3e⟩, n4, n5⟩ := id HN
  obtain ⟨u1, u2, u3, u4, u5, u6, u7, u8, u9⟩ := id hQ
  intro n
  induction n with
  | zero => intro p h1 h3; omega
  | succ n ih =>
    intro p h1 h3 v5
    refine R_iload dX2_holder_7 rfl ?_
    refine R_aload_n dX2_holder_9 rfl ?_
    refine R_get dX2_holder_10 f_X2_101 g0 rfl ?_
    refine R_geN 46 dX2_holder_13 rfl (by omega) (by omega) (fun c_13 => ?_) (fun c_13 => ?_)
    · have e : p = P := by omega
      subst e
      refine R_iload_n dX2_holder_46 rfl ?_
      exact R_iret dX2_holder_47 rfl rfl rfl x_pr.mk
    · have hp : p < P := by omega
      have w1 := s_cnt_le (s_own Q (nI p)) R
      have w2 := s_hold_le R Q p
      refine R_aload_n dX2_holder_16 rfl ?_
      refine R_aload_n dX2_holder_17 rfl ?_
      refine R_iload dX2_holder_18 rfl ?_
      refine R_cV2p (N := m_X2_holdings) dX2_holder_20 l_X2_108 i_X2_holdings n0 (c_Night_holdings H hB HN hQ (nI p)) rfl rfl ?_
      refine R_cS1p (N := m_J6_bitCount_0f7a4) dX2_holder_23 l_X2_111 i_J6_bitCount_0f7a4 (c_bitCount b2 _) rfl rfl ?_
      refine R_istore dX2_holder_26 (Nat.le_of_ble_eq_true rfl) rfl ?_
      refine R_iload dX2_holder_28 rfl ?_
      refine R_iload_n dX2_holder_30 rfl ?_
      refine R_leN 40 dX2_holder_31 rfl (by omega) (by omega) (fun c_31 => ?_) (fun c_31 => ?_)
      · rw [show s_hold R Q p = s_hold R Q (p + 1) from by rw [s_hold, if_neg (by omega)]]
        refine R_iincN dX2_holder_40 rfl (Nat.le_of_ble_eq_true rfl) rfl ?_
        refine R_goto 7 dX2_holder_43 rfl ?_
        exact ih (p + 1) (by omega) (by omega) _
      · have e1 : (s_hold R Q (p + 1)) = (nI p, s_cnt R (s_own Q (nI p))) := by rw [s_hold, if_pos (by omega)]
        refine R_iload dX2_holder_34 rfl ?_
        refine R_istore_n dX2_holder_36 (Nat.le_of_ble_eq_true rfl) rfl ?_
        refine R_iload dX2_holder_37 rfl ?_
        refine R_istore_n dX2_holder_39 (Nat.le_of_ble_eq_true rfl) rfl ?_
        have key := ih (p + 1) (by omega) (by omega)
        rw [e1] at key
        refine R_iincN dX2_holder_40 rfl (Nat.le_of_ble_eq_true rfl) rfl ?_
        refine R_goto 7 dX2_holder_43 rfl ?_
        exact key _
theorem c_Night_holder {h : xH} {b c N R D P : Nat} {F : xF} {Q : xQ} (H : x_House h b N R D P F) (hB : x_HB N R D P F) (HN : x_Night h c R P Q) (hQ : x_QB N R P Q) : x_Met m_X2_holder [.ref c, .ref b] h (x_pr (s_hold R Q P).1 h) := by

  refine x_Met.of (lo := [some (.ref c), some (.ref b), none, none, none, none]) (by decide) rfl rfl rfl ?_
  refine R_iconst (-1) dX2_holder_0 rfl ?_
  refine R_istore_n dX2_holder_1 (Nat.le_of_ble_eq_true rfl) rfl ?_
  refine R_iconst (nI 0) dX2_holder_2 rfl ?_
  refine R_istore_n dX2_holder_3 (Nat.le_of_ble_eq_true rfl) rfl ?_
  refine R_iconst (nI 0) dX2_holder_4 rfl ?_
  refine R_istore dX2_holder_5 (Nat.le_of_ble_eq_true rfl) rfl ?_
  exact c_Night_holder_loop H hB HN hQ (P + 1) 0 (by omega) (by omega) none
