/-! NEW OBJECTS -/
def v_0 : List Value := [.int 0, .null, .null]
def d_0 : xC := .inr (0, v_0)
def t_0 (k : Nat) : FieldType := [(.int : FieldType), ((.array .int) : FieldType), ((.array .int) : FieldType)].getD k .int
theorem t_0_ok : ∀ k, k < 3 → parseFieldDescriptor (TX0 k).2.2.1 = some (t_0 k) := by decide +kernel
theorem d_0_ok : ∀ k, k < 3 → vp_V v_0 k = defaultValue (t_0 k) := by
  intro k hk
  rcases (show k = 0 ∨ k = 1 ∨ k = 2 by omega) with rfl | rfl | rfl <;> rfl
theorem C_new0 {M : xM} {pc : Nat} {lo : List (Option Value)} {st : List Value} {h : xH} {cs : Nat × Nat} {K : Option Value → xH → Prop} {idx : Nat} (hd : decode M.2.2.1 pc = .ok (.new idx, 3)) (hcl : Cond.classLink M.1 idx RX0 ∈ x_words) (hc : Nat.ble (cs.1 + 1) M.2.2.2.2.2.cells = true) (hs : Nat.ble (cs.2 + 3) M.2.2.2.2.2.slots = true) (kk : x_Rn M (pc + 3) lo (.ref h.length :: st) (h ++ [d_0]) (cs.1 + 1, cs.2 + 3) K) : x_Rn M pc lo st h cs K := R_new (ci := 0) (Cn := RX0) (T := TX0) (N := 3) (t := t_0) (fs := v_0) hd rfl hcl xi_inst0 xi_RX0 t_0_ok d_0_ok hc hs kk
def v_1 : List Value := [.int 0, .int 0, .int 0, .int 0, .null, .null, .null, .null, .null, .null, .null, .null, .null]
def d_1 : xC := .inr (1, v_1)
def t_1 (k : Nat) : FieldType := [(.int : FieldType), (.int : FieldType), (.int : FieldType), (.int : FieldType), ((.array .int) : FieldType), ((.array .int) : FieldType), ((.array .int) : FieldType), ((.array .int) : FieldType), ((.array .int) : FieldType), ((.array .int) : FieldType), ((.array .int) : FieldType), ((.array (.array .int)) : FieldType), ((.array (.array .int)) : FieldType)].getD k .int
theorem t_1_ok : ∀ k, k < 13 → parseFieldDescriptor (TX1 k).2.2.1 = some (t_1 k) := by decide +kernel
theorem d_1_ok : ∀ k, k < 13 → vp_V v_1 k = defaultValue (t_1 k) := by
  intro k hk
  rcases (show k = 0 ∨ k = 1 ∨ k = 2 ∨ k = 3 ∨ k = 4 ∨ k = 5 ∨ k = 6 ∨ k = 7 ∨ k = 8 ∨ k = 9 ∨ k = 10 ∨ k = 11 ∨ k = 12 by omega) with rfl | rfl | rfl | rfl | rfl | rfl | rfl | rfl | rfl | rfl | rfl | rfl | rfl <;> rfl
theorem C_new1 {M : xM} {pc : Nat} {lo : List (Option Value)} {st : List Value} {h : xH} {cs : Nat × Nat} {K : Option Value → xH → Prop} {idx : Nat} (hd : decode M.2.2.1 pc = .ok (.new idx, 3)) (hcl : Cond.classLink M.1 idx RX1 ∈ x_words) (hc : Nat.ble (cs.1 + 1) M.2.2.2.2.2.cells = true) (hs : Nat.ble (cs.2 + 13) M.2.2.2.2.2.slots = true) (kk : x_Rn M (pc + 3) lo (.ref h.length :: st) (h ++ [d_1]) (cs.1 + 1, cs.2 + 13) K) : x_Rn M pc lo st h cs K := R_new (ci := 1) (Cn := RX1) (T := TX1) (N := 13) (t := t_1) (fs := v_1) hd rfl hcl xi_inst1 xi_RX1 t_1_ok d_1_ok hc hs kk
def v_2 : List Value := [.int 0, .int 0, .int 0, .int 0, .null, .null, .null, .null]
def d_2 : xC := .inr (2, v_2)
def t_2 (k : Nat) : FieldType := [(.int : FieldType), (.int : FieldType), (.int : FieldType), (.int : FieldType), ((.array .int) : FieldType), ((.array .int) : FieldType), ((.array .int) : FieldType), ((.array (.array .int)) : FieldType)].getD k .int
theorem t_2_ok : ∀ k, k < 8 → parseFieldDescriptor (TX2 k).2.2.1 = some (t_2 k) := by decide +kernel
theorem d_2_ok : ∀ k, k < 8 → vp_V v_2 k = defaultValue (t_2 k) := by
  intro k hk
  rcases (show k = 0 ∨ k = 1 ∨ k = 2 ∨ k = 3 ∨ k = 4 ∨ k = 5 ∨ k = 6 ∨ k = 7 by omega) with rfl | rfl | rfl | rfl | rfl | rfl | rfl | rfl <;> rfl
theorem C_new2 {M : xM} {pc : Nat} {lo : List (Option Value)} {st : List Value} {h : xH} {cs : Nat × Nat} {K : Option Value → xH → Prop} {idx : Nat} (hd : decode M.2.2.1 pc = .ok (.new idx, 3)) (hcl : Cond.classLink M.1 idx RX2 ∈ x_words) (hc : Nat.ble (cs.1 + 1) M.2.2.2.2.2.cells = true) (hs : Nat.ble (cs.2 + 8) M.2.2.2.2.2.slots = true) (kk : x_Rn M (pc + 3) lo (.ref h.length :: st) (h ++ [d_2]) (cs.1 + 1, cs.2 + 8) K) : x_Rn M pc lo st h cs K := R_new (ci := 2) (Cn := RX2) (T := TX2) (N := 8) (t := t_2) (fs := v_2) hd rfl hcl xi_inst2 xi_RX2 t_2_ok d_2_ok hc hs kk
def v_3 : List Value := [.int 0, .int 0, .null, .null]
def d_3 : xC := .inr (3, v_3)
def t_3 (k : Nat) : FieldType := [(.int : FieldType), (.int : FieldType), ((.array (.array .long)) : FieldType), ((.array (.array .long)) : FieldType)].getD k .int
theorem t_3_ok : ∀ k, k < 4 → parseFieldDescriptor (TX3 k).2.2.1 = some (t_3 k) := by decide +kernel
theorem d_3_ok : ∀ k, k < 4 → vp_V v_3 k = defaultValue (t_3 k) := by
  intro k hk
  rcases (show k = 0 ∨ k = 1 ∨ k = 2 ∨ k = 3 by omega) with rfl | rfl | rfl | rfl <;> rfl
theorem C_new3 {M : xM} {pc : Nat} {lo : List (Option Value)} {st : List Value} {h : xH} {cs : Nat × Nat} {K : Option Value → xH → Prop} {idx : Nat} (hd : decode M.2.2.1 pc = .ok (.new idx, 3)) (hcl : Cond.classLink M.1 idx RX3 ∈ x_words) (hc : Nat.ble (cs.1 + 1) M.2.2.2.2.2.cells = true) (hs : Nat.ble (cs.2 + 4) M.2.2.2.2.2.slots = true) (kk : x_Rn M (pc + 3) lo (.ref h.length :: st) (h ++ [d_3]) (cs.1 + 1, cs.2 + 4) K) : x_Rn M pc lo st h cs K := R_new (ci := 3) (Cn := RX3) (T := TX3) (N := 4) (t := t_3) (fs := v_3) hd rfl hcl xi_inst3 xi_RX3 t_3_ok d_3_ok hc hs kk
def v_4 : List Value := [.int 0, .null, .null]
def d_4 : xC := .inr (4, v_4)
def t_4 (k : Nat) : FieldType := [(.int : FieldType), ((.array .int) : FieldType), ((.array .boolean) : FieldType)].getD k .int
theorem t_4_ok : ∀ k, k < 3 → parseFieldDescriptor (TX4 k).2.2.1 = some (t_4 k) := by decide +kernel
theorem d_4_ok : ∀ k, k < 3 → vp_V v_4 k = defaultValue (t_4 k) := by
  intro k hk
  rcases (show k = 0 ∨ k = 1 ∨ k = 2 by omega) with rfl | rfl | rfl <;> rfl
theorem C_new4 {M : xM} {pc : Nat} {lo : List (Option Value)} {st : List Value} {h : xH} {cs : Nat × Nat} {K : Option Value → xH → Prop} {idx : Nat} (hd : decode M.2.2.1 pc = .ok (.new idx, 3)) (hcl : Cond.classLink M.1 idx RX4 ∈ x_words) (hc : Nat.ble (cs.1 + 1) M.2.2.2.2.2.cells = true) (hs : Nat.ble (cs.2 + 3) M.2.2.2.2.2.slots = true) (kk : x_Rn M (pc + 3) lo (.ref h.length :: st) (h ++ [d_4]) (cs.1 + 1, cs.2 + 3) K) : x_Rn M pc lo st h cs K := R_new (ci := 4) (Cn := RX4) (T := TX4) (N := 3) (t := t_4) (fs := v_4) hd rfl hcl xi_inst4 xi_RX4 t_4_ok d_4_ok hc hs kk
def v_5 : List Value := [.null, .int 0, .int 0, .int 0, .int 0]
def d_5 : xC := .inr (5, v_5)
def t_5 (k : Nat) : FieldType := [((.array .int) : FieldType), (.int : FieldType), (.int : FieldType), (.int : FieldType), (.int : FieldType)].getD k .int
theorem t_5_ok : ∀ k, k < 5 → parseFieldDescriptor (TX5 k).2.2.1 = some (t_5 k) := by decide +kernel
theorem d_5_ok : ∀ k, k < 5 → vp_V v_5 k = defaultValue (t_5 k) := by
  intro k hk
  rcases (show k = 0 ∨ k = 1 ∨ k = 2 ∨ k = 3 ∨ k = 4 by omega) with rfl | rfl | rfl | rfl | rfl <;> rfl
theorem C_new5 {M : xM} {pc : Nat} {lo : List (Option Value)} {st : List Value} {h : xH} {cs : Nat × Nat} {K : Option Value → xH → Prop} {idx : Nat} (hd : decode M.2.2.1 pc = .ok (.new idx, 3)) (hcl : Cond.classLink M.1 idx RX5 ∈ x_words) (hc : Nat.ble (cs.1 + 1) M.2.2.2.2.2.cells = true) (hs : Nat.ble (cs.2 + 5) M.2.2.2.2.2.slots = true) (kk : x_Rn M (pc + 3) lo (.ref h.length :: st) (h ++ [d_5]) (cs.1 + 1, cs.2 + 5) K) : x_Rn M pc lo st h cs K := R_new (ci := 5) (Cn := RX5) (T := TX5) (N := 5) (t := t_5) (fs := v_5) hd rfl hcl xi_inst5 xi_RX5 t_5_ok d_5_ok hc hs kk
def v_6 : List Value := [.null, .int 0, .int 0]
def d_6 : xC := .inr (6, v_6)
def t_6 (k : Nat) : FieldType := [((.array (.object "LastSentence$Night")) : FieldType), (.int : FieldType), (.int : FieldType)].getD k .int
theorem t_6_ok : ∀ k, k < 3 → parseFieldDescriptor (TX6 k).2.2.1 = some (t_6 k) := by decide +kernel
theorem d_6_ok : ∀ k, k < 3 → vp_V v_6 k = defaultValue (t_6 k) := by
  intro k hk
  rcases (show k = 0 ∨ k = 1 ∨ k = 2 by omega) with rfl | rfl | rfl <;> rfl
theorem C_new6 {M : xM} {pc : Nat} {lo : List (Option Value)} {st : List Value} {h : xH} {cs : Nat × Nat} {K : Option Value → xH → Prop} {idx : Nat} (hd : decode M.2.2.1 pc = .ok (.new idx, 3)) (hcl : Cond.classLink M.1 idx RX6 ∈ x_words) (hc : Nat.ble (cs.1 + 1) M.2.2.2.2.2.cells = true) (hs : Nat.ble (cs.2 + 3) M.2.2.2.2.2.slots = true) (kk : x_Rn M (pc + 3) lo (.ref h.length :: st) (h ++ [d_6]) (cs.1 + 1, cs.2 + 3) K) : x_Rn M pc lo st h cs K := R_new (ci := 6) (Cn := RX6) (T := TX6) (N := 3) (t := t_6) (fs := v_6) hd rfl hcl xi_inst6 xi_RX6 t_6_ok d_6_ok hc hs kk
def v_7 : List Value := [.null, .null, .null, .null, .null, .null, .null, .null, .null, .null, .null, .int 0, .int 0]
def d_7 : xC := .inr (7, v_7)
def t_7 (k : Nat) : FieldType := [((.object "LastSentence$Text") : FieldType), ((.object "LastSentence$House") : FieldType), ((.object "LastSentence$House") : FieldType), ((.object "LastSentence$Night") : FieldType), ((.object "LastSentence$Trail") : FieldType), ((.array (.object "LastSentence$Night")) : FieldType), ((.array .int) : FieldType), ((.array .boolean) : FieldType), ((.object "LastSentence$Planner") : FieldType), ((.object "LastSentence$Seen") : FieldType), ((.object "LastSentence$Book") : FieldType), (.int : FieldType), (.int : FieldType)].getD k .int
theorem t_7_ok : ∀ k, k < 13 → parseFieldDescriptor (TX7 k).2.2.1 = some (t_7 k) := by decide +kernel
theorem d_7_ok : ∀ k, k < 13 → vp_V v_7 k = defaultValue (t_7 k) := by
  intro k hk
  rcases (show k = 0 ∨ k = 1 ∨ k = 2 ∨ k = 3 ∨ k = 4 ∨ k = 5 ∨ k = 6 ∨ k = 7 ∨ k = 8 ∨ k = 9 ∨ k = 10 ∨ k = 11 ∨ k = 12 by omega) with rfl | rfl | rfl | rfl | rfl | rfl | rfl | rfl | rfl | rfl | rfl | rfl | rfl <;> rfl
theorem C_new7 {M : xM} {pc : Nat} {lo : List (Option Value)} {st : List Value} {h : xH} {cs : Nat × Nat} {K : Option Value → xH → Prop} {idx : Nat} (hd : decode M.2.2.1 pc = .ok (.new idx, 3)) (hcl : Cond.classLink M.1 idx RX7 ∈ x_words) (hc : Nat.ble (cs.1 + 1) M.2.2.2.2.2.cells = true) (hs : Nat.ble (cs.2 + 13) M.2.2.2.2.2.slots = true) (kk : x_Rn M (pc + 3) lo (.ref h.length :: st) (h ++ [d_7]) (cs.1 + 1, cs.2 + 13) K) : x_Rn M pc lo st h cs K := R_new (ci := 7) (Cn := RX7) (T := TX7) (N := 13) (t := t_7) (fs := v_7) hd rfl hcl xi_inst7 xi_RX7 t_7_ok d_7_ok hc hs kk
def v_8 : List Value := [.null, .int 0, .int 0, .int 0, .int 0, .int 0, .int 0, .null, .null, .null, .null, .null, .null, .null, .null, .null, .int 0, .long 0, .null, .null, .null, .null, .int 0, .null, .int 0, .int 0, .int 0, .int 0, .int 0, .int 0, .int 0, .int 0, .null, .null, .null, .null, .null, .null, .null]
def d_8 : xC := .inr (8, v_8)
def t_8 (k : Nat) : FieldType := [((.array .int) : FieldType), (.int : FieldType), (.int : FieldType), (.int : FieldType), (.int : FieldType), (.int : FieldType), (.int : FieldType), ((.array .int) : FieldType), ((.array .int) : FieldType), ((.array .int) : FieldType), ((.array .int) : FieldType), ((.array .int) : FieldType), ((.array .int) : FieldType), ((.array .int) : FieldType), ((.array .int) : FieldType), ((.array .int) : FieldType), (.int : FieldType), (.long : FieldType), ((.array .int) : FieldType), ((.array .long) : FieldType), ((.array .boolean) : FieldType), ((.array .int) : FieldType), (.int : FieldType), ((.array .int) : FieldType), (.int : FieldType), (.int : FieldType), (.int : FieldType), (.int : FieldType), (.int : FieldType), (.int : FieldType), (.int : FieldType), (.int : FieldType), ((.array .int) : FieldType), ((.array .int) : FieldType), ((.array .int) : FieldType), ((.array .int) : FieldType), ((.array .int) : FieldType), ((.array .int) : FieldType), ((.array .int) : FieldType)].getD k .int
theorem t_8_ok : ∀ k, k < 39 → parseFieldDescriptor (TX8 k).2.2.1 = some (t_8 k) := by decide +kernel
theorem d_8_ok : ∀ k, k < 39 → vp_V v_8 k = defaultValue (t_8 k) := by
  intro k hk
  rcases (show k = 0 ∨ k = 1 ∨ k = 2 ∨ k = 3 ∨ k = 4 ∨ k = 5 ∨ k = 6 ∨ k = 7 ∨ k = 8 ∨ k = 9 ∨ k = 10 ∨ k = 11 ∨ k = 12 ∨ k = 13 ∨ k = 14 ∨ k = 15 ∨ k = 16 ∨ k = 17 ∨ k = 18 ∨ k = 19 ∨ k = 20 ∨ k = 21 ∨ k = 22 ∨ k = 23 ∨ k = 24 ∨ k = 25 ∨ k = 26 ∨ k = 27 ∨ k = 28 ∨ k = 29 ∨ k = 30 ∨ k = 31 ∨ k = 32 ∨ k = 33 ∨ k = 34 ∨ k = 35 ∨ k = 36 ∨ k = 37 ∨ k = 38 by omega) with rfl | rfl | rfl | rfl | rfl | rfl | rfl | rfl | rfl | rfl | rfl | rfl | rfl | rfl | rfl | rfl | rfl | rfl | rfl | rfl | rfl | rfl | rfl | rfl | rfl | rfl | rfl | rfl | rfl | rfl | rfl | rfl | rfl | rfl | rfl | rfl | rfl | rfl | rfl <;> rfl
theorem C_new8 {M : xM} {pc : Nat} {lo : List (Option Value)} {st : List Value} {h : xH} {cs : Nat × Nat} {K : Option Value → xH → Prop} {idx : Nat} (hd : decode M.2.2.1 pc = .ok (.new idx, 3)) (hcl : Cond.classLink M.1 idx RX8 ∈ x_words) (hc : Nat.ble (cs.1 + 1) M.2.2.2.2.2.cells = true) (hs : Nat.ble (cs.2 + 39) M.2.2.2.2.2.slots = true) (kk : x_Rn M (pc + 3) lo (.ref h.length :: st) (h ++ [d_8]) (cs.1 + 1, cs.2 + 39) K) : x_Rn M pc lo st h cs K := R_new (ci := 8) (Cn := RX8) (T := TX8) (N := 39) (t := t_8) (fs := v_8) hd rfl hcl xi_inst8 xi_RX8 t_8_ok d_8_ok hc hs kk
theorem x_last {h : xH} {a : Nat} {o : xC} (hl : h.length = a + 1) (ho : h[a]? = some o) : ∃ h0 : xH, h0.length = a ∧ h = h0 ++ [o] := by
  refine ⟨h.take a, by rw [List.length_take]; omega, ?_⟩
  apply List.ext_getElem?
  intro i
  by_cases c : i < a
  · rw [List.getElem?_append_left (by rw [List.length_take]; omega), List.getElem?_take_of_lt c]
  · rw [List.getElem?_append_right (by rw [List.length_take]; omega), List.length_take]
    by_cases e : i = a
    · subst e; rw [ho, show i - min i h.length = 0 by omega]; rfl
    · rw [List.getElem?_eq_none (by omega), List.getElem?_eq_none (by show 1 ≤ _; omega)]
theorem x_apl {h0 L : xH} {a j : Nat} (ha : h0.length = a) : (h0 ++ L)[a + j]? = L[j]? := by rw [List.getElem?_append_right (by omega), ha, Nat.add_sub_cancel_left]
theorem C_newa {M : xM} {pc : Nat} {lo : List (Option Value)} {st : List Value} {h0 L : xH} {cs : Nat × Nat} {K : Option Value → xH → Prop} {at_ : ArrayType} {N a n : Nat} {x : Int32} (L' : xH) (hd : decode M.2.2.1 pc = .ok (.newarray at_, 2)) (hat : at_ = .int ∨ at_ = .long ∨ at_ = .boolean) (hw : Cond.arrayClass (newarray.typeOf at_) ∈ x_words) (hn : x = nI N) (hN : Nat.ble N 60000 = true) (hc : Nat.ble (cs.1 + 1) M.2.2.2.2.2.cells = true) (hs : Nat.ble (cs.2 + N) M.2.2.2.2.2.slots = true) (ha : h0.length = a) (hL : L.length = n) (e : L ++ [x_az (x_at at_) N] = L') (kk : x_Rn M (pc + 2) lo (.ref (a + n) :: st) (h0 ++ L') (cs.1 + 1, cs.2 + N) K) : x_Rn M pc lo (.int x :: st) (h0 ++ L) cs K := R_newa hd hat hw hn hN hc hs (by rw [List.length_append, ha, hL, List.append_assoc, e]; exact kk)
theorem C_multi {M : xM} {pc : Nat} {lo : List (Option Value)} {st : List Value} {h0 L : xH} {cs : Nat × Nat} {K : Option Value → xH → Prop} {idx N Q kd a m : Nat} {ty : FieldType} {n k : Int32} (L' : xH) (hd : decode M.2.2.1 pc = .ok (.multianewarray idx 2, 4)) (hk : (kd = 0 ∧ ty = .int) ∨ (kd = 1 ∧ ty = .long)) (hw : Cond.classLink M.1 idx ("[" ++ (FieldType.array ty).toString) ∈ x_words) (hw2 : Cond.arrayClass ty ∈ x_words) (hn : n = nI N) (hkk : k = nI Q) (hN : Nat.ble N 60000 = true) (hQ : Nat.ble Q 60000 = true) (hc : Nat.ble (cs.1 + (1 + N)) M.2.2.2.2.2.cells = true) (hs : Nat.ble (cs.2 + (N + N * Q)) M.2.2.2.2.2.slots = true) (ha : h0.length = a) (hL : L.length = m) (e : L ++ x_grid kd (a + m) N Q = L') (kk : x_Rn M (pc + 4) lo (.ref (a + m) :: st) (h0 ++ L') (cs.1 + 1 + N, cs.2 + N + N * Q) K) : x_Rn M pc lo (.int k :: .int n :: st) (h0 ++ L) cs K := R_multi hd hk hw hw2 hn hkk hN hQ hc hs (by rw [List.length_append, ha, hL, List.append_assoc, e]; exact kk)
theorem x_set0 {h0 L : xH} {a : Nat} {o o' : xC} (ha : h0.length = a) : (h0 ++ (o :: L)).set a o' = h0 ++ (o' :: L) := by
  have e := List.set_append_right (s := h0) (t := o :: L) a o' (by omega)
  rw [ha, Nat.sub_self] at e
  exact e
theorem C_put {M : xM} {pc : Nat} {lo : List (Option Value)} {st : List Value} {h0 L : xH} {cs : Nat × Nat} {K : Option Value → xH → Prop} {idx ci k a : Nat} {ty : FieldType} {fs : List Value} {v : Value} (fs' : List Value) (hd : decode M.2.2.1 pc = .ok (.putfield idx, 3)) (hf : x_FL M.1 idx ci k ty false) (ha : h0.length = a) (hl : k < fs.length) (hn : ∀ G, narrow ty (x_cv G v) = x_cv G v) (hfit : ∀ G, fits ty (x_cv G v) = true) (e : fs.set k v = fs') (kk : x_Rn M (pc + 3) lo st (h0 ++ (.inr (ci, fs') :: L)) cs K) : x_Rn M pc lo (v :: .ref a :: st) (h0 ++ (.inr (ci, fs) :: L)) cs K := R_put hd hf (by rw [List.getElem?_append_right (by omega), ha, Nat.sub_self]; rfl) hl hn hfit (by rw [x_set0 ha, e]; exact kk)
theorem C_putF {M : xM} {pc : Nat} {lo : List (Option Value)} {st : List Value} {h0 L : xH} {cs : Nat × Nat} {K : Option Value → xH → Prop} {idx ci k a : Nat} {ty : FieldType} {fs : List Value} {v : Value} (fs' : List Value) (hd : decode M.2.2.1 pc = .ok (.putfield idx, 3)) (hf : x_FL M.1 idx ci k ty true) (hown : vwCl[ci]?.map (·.1) = some M.1) (hini : M.2.1.name = "<init>") (ha : h0.length = a) (hl : k < fs.length) (hn : ∀ G, narrow ty (x_cv G v) = x_cv G v) (hfit : ∀ G, fits ty (x_cv G v) = true) (e : fs.set k v = fs') (kk : x_Rn M (pc + 3) lo st (h0 ++ (.inr (ci, fs') :: L)) cs K) : x_Rn M pc lo (v :: .ref a :: st) (h0 ++ (.inr (ci, fs) :: L)) cs K := R_putF hd hf hown hini (by rw [List.getElem?_append_right (by omega), ha, Nat.sub_self]; rfl) hl hn hfit (by rw [x_set0 ha, e]; exact kk)
theorem C_callN {M N : xM} {pc : Nat} {lo : List (Option Value)} {st : List Value} {h : xH} {cs : Nat × Nat} {K : Option Value → xH → Prop} {idx a : Nat} {host : String} {P : xH → Prop} (hd : decode M.2.2.1 pc = .ok (.invokespecial idx, 3)) (hl : Cond.methodLinkNest M.1 idx N.2.1 host ∈ x_nest) (hrt : N.2.2.2.2.1 = none) (hN : x_II N 0) (hC : x_Met N [.ref a] h (x_vd P)) (hf : x_fit M N cs = true) (hs : x_stk st = true) (kk : ∀ h', P h' → x_Rn M (pc + 3) lo st h' (cs.1 + N.2.2.2.2.2.cells, cs.2 + N.2.2.2.2.2.slots) K) : x_Rn M pc lo (.ref a :: st) h cs K := R_callIN (av := []) hd hl hrt hN rfl hC hf hs (by rintro _ h2 ⟨rfl, hp⟩; exact kk h2 hp)
theorem C_callI {M N : xM} {pc : Nat} {lo : List (Option Value)} {st : List Value} {h : xH} {cs : Nat × Nat} {K : Option Value → xH → Prop} {idx a : Nat} {P : xH → Prop} (hd : decode M.2.2.1 pc = .ok (.invokespecial idx, 3)) (hl : Cond.methodLink M.1 idx N.2.1 ∈ x_words) (hrt : N.2.2.2.2.1 = none) (hN : x_II N 0) (hC : x_Met N [.ref a] h (x_vd P)) (hf : x_fit M N cs = true) (hs : x_stk st = true) (kk : ∀ h', P h' → x_Rn M (pc + 3) lo st h' (cs.1 + N.2.2.2.2.2.cells, cs.2 + N.2.2.2.2.2.slots) K) : x_Rn M pc lo (.ref a :: st) h cs K := R_callI (av := []) hd hl hrt hN rfl hC hf hs (by rintro _ h2 ⟨rfl, hp⟩; exact kk h2 hp)
theorem x_n1 : Cond.methodLinkNest RX7 9 yX5_init RX7 ∈ x_nest := .tail _ (.head _)
theorem x_n2 : Cond.methodLinkNest RX7 18 yX1_init RX7 ∈ x_nest := .tail _ (.tail _ (.head _))
theorem x_n3 : Cond.methodLinkNest RX7 28 yX2_init RX7 ∈ x_nest := .tail _ (.tail _ (.tail _ (.head _)))
theorem x_n4 : Cond.methodLinkNest RX7 54 yX3_init RX7 ∈ x_nest := .tail _ (.tail _ (.tail _ (.tail _ (.head _))))
theorem x_n5 : Cond.methodLinkNest RX7 61 yX4_init RX7 ∈ x_nest := .tail _ (.tail _ (.tail _ (.tail _ (.tail _ (.head _)))))
theorem x_n6 : Cond.methodLinkNest RX7 68 yX0_init RX7 ∈ x_nest := .tail _ (.tail _ (.tail _ (.tail _ (.tail _ (.tail _ (.head _))))))
theorem x_n7 : Cond.methodLinkNest RX6 24 yX2_init RX7 ∈ x_nest := .tail _ (.tail _ (.tail _ (.tail _ (.tail _ (.tail _ (.tail _ (.head _)))))))
theorem c_X0_init {h : xH} {a : Nat} (hl : h.length = a + 1) (ho : h[a]? = some d_0) (h2 : 2 ≤ a) : x_Met m_X0_init [.ref a] h (x_vd (fun h' => h'.length = a + 3 ∧ x_Book h' a 0 (fun _ => 0) (fun _ => 0) ∧ ∀ q, q < a → h'[q]? = h[q]?)) := by
  obtain ⟨h0, ha, rfl⟩ := x_last hl ho
  refine x_Met.of (lo := [some (.ref a)]) (by decide) rfl rfl rfl ?_
  show x_Rn m_X0_init 0 _ _ (h0 ++ [.inr (0, [.int 0, .null, .null])]) _ _
  refine R_aload_n dX0_init_0 rfl ?_
  refine R_obj dX0_init_1 l_X0_3 xi_obi xi_obc rfl rfl rfl ?_
  refine R_aload_n dX0_init_4 rfl ?_
  refine R_iconst (nI 0) dX0_init_5 rfl ?_
  refine C_put [.int (nI 0), .null, .null] dX0_init_6 f_X0_9 ha (Nat.le_of_ble_eq_true rfl) (fun _ => rfl) (fun _ => rfl) rfl ?_
  refine R_aload_n dX0_init_9 rfl ?_
  refine R_bipush (nI 20) dX0_init_10 rfl ?_
  refine C_newa [.inr (0, [.int (nI 0), .null, .null]), .inl (0, 20, .inl (fun _ => 0))] dX0_init_12 (by first | exact Or.inl rfl | exact Or.inr (Or.inl rfl) | exact Or.inr (Or.inr rfl)) xi_ac_int rfl rfl rfl rfl ha rfl rfl ?_
  refine C_putF [.int (nI 0), .ref (a + 1), .null] dX0_init_14 f_X0_15 rfl rfl ha (Nat.le_of_ble_eq_true rfl) (fun _ => rfl) (fun _ => rfl) rfl ?_
  refine R_aload_n dX0_init_17 rfl ?_
  refine R_bipush (nI 20) dX0_init_18 rfl ?_
  refine C_newa [.inr (0, [.int (nI 0), .ref (a + 1), .null]), .inl (0, 20, .inl (fun _ => 0)), .inl (0, 20, .inl (fun _ => 0))] dX0_init_20 (by first | exact Or.inl rfl | exact Or.inr (Or.inl rfl) | exact Or.inr (Or.inr rfl)) xi_ac_int rfl rfl rfl rfl ha rfl rfl ?_
  refine C_putF [.int (nI 0), .ref (a + 1), .ref (a + 2)] dX0_init_22 f_X0_19 rfl rfl ha (Nat.le_of_ble_eq_true rfl) (fun _ => rfl) (fun _ => rfl) rfl ?_
  refine R_vret dX0_init_25 rfl rfl rfl ⟨rfl, ?_, ?_, ?_⟩
  · rw [List.length_append, ha]; rfl
  · have G : ∀ j, (h0 ++ [.inr (0, [.int (nI 0), .ref (a + 1), .ref (a + 2)]), .inl (0, 20, .inl (fun _ => 0)), .inl (0, 20, .inl (fun _ => 0))])[a + j]? = ([.inr (0, [.int (nI 0), .ref (a + 1), .ref (a + 2)]), .inl (0, 20, .inl (fun _ => 0)), .inl (0, 20, .inl (fun _ => 0))] : xH)[j]? := fun j => x_apl ha
    exact ⟨h2, by decide, G 0, ⟨_, G 1, fun i hi => absurd hi (Nat.not_lt_zero i)⟩, _, G 2, fun i hi => absurd hi (Nat.not_lt_zero i)⟩
  · intro q hq; rw [List.getElem?_append_left (by omega), List.getElem?_append_left (by omega)]
theorem c_X4_init {h : xH} {a : Nat} (hl : h.length = a + 1) (ho : h[a]? = some d_4) (h2 : 2 ≤ a) : x_Met m_X4_init [.ref a] h (x_vd (fun h' => h'.length = a + 3 ∧ x_Seen h' a 0 (fun _ => 0) (fun _ => false) ∧ ∀ q, q < a → h'[q]? = h[q]?)) := by
  obtain ⟨h0, ha, rfl⟩ := x_last hl ho
  refine x_Met.of (lo := [some (.ref a)]) (by decide) rfl rfl rfl ?_
  show x_Rn m_X4_init 0 _ _ (h0 ++ [.inr (4, [.int 0, .null, .null])]) _ _
  refine R_aload_n dX4_init_0 rfl ?_
  refine R_obj dX4_init_1 l_X4_3 xi_obi xi_obc rfl rfl rfl ?_
  refine R_aload_n dX4_init_4 rfl ?_
  refine R_iconst (nI 0) dX4_init_5 rfl ?_
  refine C_put [.int (nI 0), .null, .null] dX4_init_6 f_X4_9 ha (Nat.le_of_ble_eq_true rfl) (fun _ => rfl) (fun _ => rfl) rfl ?_
  refine R_aload_n dX4_init_9 rfl ?_
  refine R_bipush (nI 6) dX4_init_10 rfl ?_
  refine C_newa [.inr (4, [.int (nI 0), .null, .null]), .inl (0, 6, .inl (fun _ => 0))] dX4_init_12 (by first | exact Or.inl rfl | exact Or.inr (Or.inl rfl) | exact Or.inr (Or.inr rfl)) xi_ac_int rfl rfl rfl rfl ha rfl rfl ?_
  refine C_putF [.int (nI 0), .ref (a + 1), .null] dX4_init_14 f_X4_15 rfl rfl ha (Nat.le_of_ble_eq_true rfl) (fun _ => rfl) (fun _ => rfl) rfl ?_
  refine R_aload_n dX4_init_17 rfl ?_
  refine R_bipush (nI 6) dX4_init_18 rfl ?_
  refine C_newa [.inr (4, [.int (nI 0), .ref (a + 1), .null]), .inl (0, 6, .inl (fun _ => 0)), .inl (2, 6, .inl (fun _ => 0))] dX4_init_20 (by first | exact Or.inl rfl | exact Or.inr (Or.inl rfl) | exact Or.inr (Or.inr rfl)) xi_ac_boolean rfl rfl rfl rfl ha rfl rfl ?_
  refine C_putF [.int (nI 0), .ref (a + 1), .ref (a + 2)] dX4_init_22 f_X4_19 rfl rfl ha (Nat.le_of_ble_eq_true rfl) (fun _ => rfl) (fun _ => rfl) rfl ?_
  refine R_vret dX4_init_25 rfl rfl rfl ⟨rfl, ?_, ?_, ?_⟩
  · rw [List.length_append, ha]; rfl
  · have G : ∀ j, (h0 ++ [.inr (4, [.int (nI 0), .ref (a + 1), .ref (a + 2)]), .inl (0, 6, .inl (fun _ => 0)), .inl (2, 6, .inl (fun _ => 0))])[a + j]? = ([.inr (4, [.int (nI 0), .ref (a + 1), .ref (a + 2)]), .inl (0, 6, .inl (fun _ => 0)), .inl (2, 6, .inl (fun _ => 0))] : xH)[j]? := fun j => x_apl ha
    exact ⟨h2, by decide, G 0, ⟨_, G 1, fun i hi => absurd hi (Nat.not_lt_zero i)⟩, _, G 2, fun i hi => absurd hi (Nat.not_lt_zero i)⟩
  · intro q hq; rw [List.getElem?_append_left (by omega), List.getElem?_append_left (by omega)]
theorem c_X5_init {h : xH} {a : Nat} (hl : h.length = a + 1) (ho : h[a]? = some d_5) (h2 : 2 ≤ a) : x_Met m_X5_init [.ref a] h (x_vd (fun h' => h'.length = a + 2 ∧ x_Text h' a 0 (fun _ => 0) (0, -1, 0) ∧ ∀ q, q < a → h'[q]? = h[q]?)) := by
  obtain ⟨h0, ha, rfl⟩ := x_last hl ho
  refine x_Met.of (lo := [some (.ref a)]) (by decide) rfl rfl rfl ?_
  show x_Rn m_X5_init 0 _ _ (h0 ++ [.inr (5, [.null, .int 0, .int 0, .int 0, .int 0])]) _ _
  refine R_aload_n dX5_init_0 rfl ?_
  refine R_obj dX5_init_1 l_X5_3 xi_obi xi_obc rfl rfl rfl ?_
  refine R_aload_n dX5_init_4 rfl ?_
  refine R_sipush (nI 240) dX5_init_5 rfl ?_
  refine C_newa [.inr (5, [.null, .int 0, .int 0, .int 0, .int 0]), .inl (0, 240, .inl (fun _ => 0))] dX5_init_8 (by first | exact Or.inl rfl | exact Or.inr (Or.inl rfl) | exact Or.inr (Or.inr rfl)) xi_ac_int rfl rfl rfl rfl ha rfl rfl ?_
  refine C_putF [.ref (a + 1), .int 0, .int 0, .int 0, .int 0] dX5_init_10 f_X5_9 rfl rfl ha (Nat.le_of_ble_eq_true rfl) (fun _ => rfl) (fun _ => rfl) rfl ?_
  refine R_aload_n dX5_init_13 rfl ?_
  refine R_iconst (nI 0) dX5_init_14 rfl ?_
  refine C_put [.ref (a + 1), .int (nI 0), .int 0, .int 0, .int 0] dX5_init_15 f_X5_15 ha (Nat.le_of_ble_eq_true rfl) (fun _ => rfl) (fun _ => rfl) rfl ?_
  refine R_aload_n dX5_init_18 rfl ?_
  refine R_iconst (nI 0) dX5_init_19 rfl ?_
  refine C_put [.ref (a + 1), .int (nI 0), .int (nI 0), .int 0, .int 0] dX5_init_20 f_X5_19 ha (Nat.le_of_ble_eq_true rfl) (fun _ => rfl) (fun _ => rfl) rfl ?_
  refine R_aload_n dX5_init_23 rfl ?_
  refine R_iconst (-1) dX5_init_24 rfl ?_
  refine C_put [.ref (a + 1), .int (nI 0), .int (nI 0), .int (-1), .int 0] dX5_init_25 f_X5_22 ha (Nat.le_of_ble_eq_true rfl) (fun _ => rfl) (fun _ => rfl) rfl ?_
  refine R_aload_n dX5_init_28 rfl ?_
  refine R_iconst (nI 0) dX5_init_29 rfl ?_
  refine C_put [.ref (a + 1), .int (nI 0), .int (nI 0), .int (-1), .int (nI 0)] dX5_init_30 f_X5_25 ha (Nat.le_of_ble_eq_true rfl) (fun _ => rfl) (fun _ => rfl) rfl ?_
  refine R_vret dX5_init_33 rfl rfl rfl ⟨rfl, ?_, ?_, ?_⟩
  · rw [List.length_append, ha]; rfl
  · have G : ∀ j, (h0 ++ [.inr (5, [.ref (a + 1), .int (nI 0), .int (nI 0), .int (-1), .int (nI 0)]), .inl (0, 240, .inl (fun _ => 0))])[a + j]? = ([.inr (5, [.ref (a + 1), .int (nI 0), .int (nI 0), .int (-1), .int (nI 0)]), .inl (0, 240, .inl (fun _ => 0))] : xH)[j]? := fun j => x_apl ha
    exact ⟨h2, by decide, by decide, by decide, fun i hi => absurd hi (Nat.not_lt_zero i), G 0, _, G 1, fun i hi => absurd hi (Nat.not_lt_zero i)⟩
  · intro q hq; rw [List.getElem?_append_left (by omega), List.getElem?_append_left (by omega)]
def xQ0 : xQ := (0, 0, 0, (fun _ => 0), (fun _ => 0), (fun _ => false), (fun _ => 0), (fun _ _ => 0))
def xF0 : xF := fun _ _ => 0
def xA0 : xA := fun _ _ => 0
theorem c_X2_init {h : xH} {a : Nat} (hl : h.length = a + 1) (ho : h[a]? = some d_2) (h2 : 2 ≤ a) : x_Met m_X2_init [.ref a] h (x_vd (fun h' => h'.length = a + 9 ∧ x_Night h' a 0 0 xQ0 ∧ ∀ q, q < a → h'[q]? = h[q]?)) := by
  obtain ⟨h0, ha, rfl⟩ := x_last hl ho
  refine x_Met.of (lo := [some (.ref a)]) (by decide) rfl rfl rfl ?_
  show x_Rn m_X2_init 0 _ _ (h0 ++ [.inr (2, [.int 0, .int 0, .int 0, .int 0, .null, .null, .null, .null])]) _ _
  refine R_aload_n dX2_init_0 rfl ?_
  refine R_obj dX2_init_1 l_X2_3 xi_obi xi_obc rfl rfl rfl ?_
  refine R_aload_n dX2_init_4 rfl ?_
  refine R_iconst (nI 0) dX2_init_5 rfl ?_
  refine C_put [.int (nI 0), .int 0, .int 0, .int 0, .null, .null, .null, .null] dX2_init_6 f_X2_9 ha (Nat.le_of_ble_eq_true rfl) (fun _ => rfl) (fun _ => rfl) rfl ?_
  refine R_aload_n dX2_init_9 rfl ?_
  refine R_iconst (nI 0) dX2_init_10 rfl ?_
  refine C_put [.int (nI 0), .int (nI 0), .int 0, .int 0, .null, .null, .null, .null] dX2_init_11 f_X2_15 ha (Nat.le_of_ble_eq_true rfl) (fun _ => rfl) (fun _ => rfl) rfl ?_
  refine R_aload_n dX2_init_14 rfl ?_
  refine R_iconst (nI 0) dX2_init_15 rfl ?_
  refine C_put [.int (nI 0), .int (nI 0), .int (nI 0), .int 0, .null, .null, .null, .null] dX2_init_16 f_X2_18 ha (Nat.le_of_ble_eq_true rfl) (fun _ => rfl) (fun _ => rfl) rfl ?_
  refine R_aload_n dX2_init_19 rfl ?_
  refine R_iconst (nI 0) dX2_init_20 rfl ?_
  refine C_put [.int (nI 0), .int (nI 0), .int (nI 0), .int (nI 0), .null, .null, .null, .null] dX2_init_21 f_X2_21 ha (Nat.le_of_ble_eq_true rfl) (fun _ => rfl) (fun _ => rfl) rfl ?_
  refine R_aload_n dX2_init_24 rfl ?_
  refine R_bipush (nI 6) dX2_init_25 rfl ?_
  refine C_newa [.inr (2, [.int (nI 0), .int (nI 0), .int (nI 0), .int (nI 0), .null, .null, .null, .null]), .inl (0, 6, .inl (fun _ => 0))] dX2_init_27 (by first | exact Or.inl rfl | exact Or.inr (Or.inl rfl) | exact Or.inr (Or.inr rfl)) xi_ac_int rfl rfl rfl rfl ha rfl rfl ?_
  refine C_putF [.int (nI 0), .int (nI 0), .int (nI 0), .int (nI 0), .ref (a + 1), .null, .null, .null] dX2_init_29 f_X2_24 rfl rfl ha (Nat.le_of_ble_eq_true rfl) (fun _ => rfl) (fun _ => rfl) rfl ?_
  refine R_aload_n dX2_init_32 rfl ?_
  refine R_bipush (nI 6) dX2_init_33 rfl ?_
  refine C_newa [.inr (2, [.int (nI 0), .int (nI 0), .int (nI 0), .int (nI 0), .ref (a + 1), .null, .null, .null]), .inl (0, 6, .inl (fun _ => 0)), .inl (0, 6, .inl (fun _ => 0))] dX2_init_35 (by first | exact Or.inl rfl | exact Or.inr (Or.inl rfl) | exact Or.inr (Or.inr rfl)) xi_ac_int rfl rfl rfl rfl ha rfl rfl ?_
  refine C_putF [.int (nI 0), .int (nI 0), .int (nI 0), .int (nI 0), .ref (a + 1), .ref (a + 2), .null, .null] dX2_init_37 f_X2_28 rfl rfl ha (Nat.le_of_ble_eq_true rfl) (fun _ => rfl) (fun _ => rfl) rfl ?_
  refine R_aload_n dX2_init_40 rfl ?_
  refine R_bipush (nI 6) dX2_init_41 rfl ?_
  refine C_newa [.inr (2, [.int (nI 0), .int (nI 0), .int (nI 0), .int (nI 0), .ref (a + 1), .ref (a + 2), .null, .null]), .inl (0, 6, .inl (fun _ => 0)), .inl (0, 6, .inl (fun _ => 0)), .inl (0, 6, .inl (fun _ => 0))] dX2_init_43 (by first | exact Or.inl rfl | exact Or.inr (Or.inl rfl) | exact Or.inr (Or.inr rfl)) xi_ac_int rfl rfl rfl rfl ha rfl rfl ?_
  refine C_putF [.int (nI 0), .int (nI 0), .int (nI 0), .int (nI 0), .ref (a + 1), .ref (a + 2), .ref (a + 3), .null] dX2_init_45 f_X2_31 rfl rfl ha (Nat.le_of_ble_eq_true rfl) (fun _ => rfl) (fun _ => rfl) rfl ?_
  refine R_aload_n dX2_init_48 rfl ?_
  refine R_iconst (nI 4) dX2_init_49 rfl ?_
  refine R_bipush (nI 6) dX2_init_50 rfl ?_
  refine C_multi (kd := 0) (ty := .int) [.inr (2, [.int (nI 0), .int (nI 0), .int (nI 0), .int (nI 0), .ref (a + 1), .ref (a + 2), .ref (a + 3), .null]), .inl (0, 6, .inl (fun _ => 0)), .inl (0, 6, .inl (fun _ => 0)), .inl (0, 6, .inl (fun _ => 0)), .inl (4, 4, .inr (.inr (.inr (.inr (fun i => if i < 4 then some (a + 4 + 1 + i) else none))))), .inl (0, 6, .inl (fun _ => 0)), .inl (0, 6, .inl (fun _ => 0)), .inl (0, 6, .inl (fun _ => 0)), .inl (0, 6, .inl (fun _ => 0))] dX2_init_52 (by first | exact Or.inl ⟨rfl, rfl⟩ | exact Or.inr ⟨rfl, rfl⟩) k_X2_34 xi_ac_int rfl rfl rfl rfl rfl rfl ha rfl rfl ?_
  refine C_putF [.int (nI 0), .int (nI 0), .int (nI 0), .int (nI 0), .ref (a + 1), .ref (a + 2), .ref (a + 3), .ref (a + 4)] dX2_init_56 f_X2_36 rfl rfl ha (Nat.le_of_ble_eq_true rfl) (fun _ => rfl) (fun _ => rfl) rfl ?_
  refine R_vret dX2_init_59 rfl rfl rfl ⟨rfl, ?_, ?_, ?_⟩
  · rw [List.length_append, ha]; rfl
  · have G : ∀ j, (h0 ++ [.inr (2, [.int (nI 0), .int (nI 0), .int (nI 0), .int (nI 0), .ref (a + 1), .ref (a + 2), .ref (a + 3), .ref (a + 4)]), .inl (0, 6, .inl (fun _ => 0)), .inl (0, 6, .inl (fun _ => 0)), .inl (0, 6, .inl (fun _ => 0)), .inl (4, 4, .inr (.inr (.inr (.inr (fun i => if i < 4 then some (a + 4 + 1 + i) else none))))), .inl (0, 6, .inl (fun _ => 0)), .inl (0, 6, .inl (fun _ => 0)), .inl (0, 6, .inl (fun _ => 0)), .inl (0, 6, .inl (fun _ => 0))])[a + j]? = ([.inr (2, [.int (nI 0), .int (nI 0), .int (nI 0), .int (nI 0), .ref (a + 1), .ref (a + 2), .ref (a + 3), .ref (a + 4)]), .inl (0, 6, .inl (fun _ => 0)), .inl (0, 6, .inl (fun _ => 0)), .inl (0, 6, .inl (fun _ => 0)), .inl (4, 4, .inr (.inr (.inr (.inr (fun i => if i < 4 then some (a + 4 + 1 + i) else none))))), .inl (0, 6, .inl (fun _ => 0)), .inl (0, 6, .inl (fun _ => 0)), .inl (0, 6, .inl (fun _ => 0)), .inl (0, 6, .inl (fun _ => 0))] : xH)[j]? := fun j => x_apl ha
    exact ⟨h2, G 0, ⟨_, G 1, fun i hi => absurd hi (Nat.not_lt_zero i)⟩, G 2, ⟨_, G 3, fun i hi => absurd hi (Nat.not_lt_zero i)⟩, G 4, (fun j hj => match j, hj with | 0, _ => G 5 | 1, _ => G 6 | 2, _ => G 7 | 3, _ => G 8 | j + 4, h => absurd h (by omega))⟩
  · intro q hq; rw [List.getElem?_append_left (by omega), List.getElem?_append_left (by omega)]
theorem c_X1_init {h : xH} {a : Nat} (hl : h.length = a + 1) (ho : h[a]? = some d_1) (h2 : 2 ≤ a) : x_Met m_X1_init [.ref a] h (x_vd (fun h' => h'.length = a + 22 ∧ x_House h' a 0 0 0 0 xF0 ∧ ∀ q, q < a → h'[q]? = h[q]?)) := by
  obtain ⟨h0, ha, rfl⟩ := x_last hl ho
  refine x_Met.of (lo := [some (.ref a)]) (by decide) rfl rfl rfl ?_
  show x_Rn m_X1_init 0 _ _ (h0 ++ [.inr (1, [.int 0, .int 0, .int 0, .int 0, .null, .null, .null, .null, .null, .null, .null, .null, .null])]) _ _
  refine R_aload_n dX1_init_0 rfl ?_
  refine R_obj dX1_init_1 l_X1_3 xi_obi xi_obc rfl rfl rfl ?_
  refine R_aload_n dX1_init_4 rfl ?_
  refine R_iconst (nI 0) dX1_init_5 rfl ?_
  refine C_put [.int (nI 0), .int 0, .int 0, .int 0, .null, .null, .null, .null, .null, .null, .null, .null, .null] dX1_init_6 f_X1_9 ha (Nat.le_of_ble_eq_true rfl) (fun _ => rfl) (fun _ => rfl) rfl ?_
  refine R_aload_n dX1_init_9 rfl ?_
  refine R_iconst (nI 0) dX1_init_10 rfl ?_
  refine C_put [.int (nI 0), .int (nI 0), .int 0, .int 0, .null, .null, .null, .null, .null, .null, .null, .null, .null] dX1_init_11 f_X1_15 ha (Nat.le_of_ble_eq_true rfl) (fun _ => rfl) (fun _ => rfl) rfl ?_
  refine R_aload_n dX1_init_14 rfl ?_
  refine R_iconst (nI 0) dX1_init_15 rfl ?_
  refine C_put [.int (nI 0), .int (nI 0), .int (nI 0), .int 0, .null, .null, .null, .null, .null, .null, .null, .null, .null] dX1_init_16 f_X1_18 ha (Nat.le_of_ble_eq_true rfl) (fun _ => rfl) (fun _ => rfl) rfl ?_
  refine R_aload_n dX1_init_19 rfl ?_
  refine R_iconst (nI 0) dX1_init_20 rfl ?_
  refine C_put [.int (nI 0), .int (nI 0), .int (nI 0), .int (nI 0), .null, .null, .null, .null, .null, .null, .null, .null, .null] dX1_init_21 f_X1_21 ha (Nat.le_of_ble_eq_true rfl) (fun _ => rfl) (fun _ => rfl) rfl ?_
  refine R_aload_n dX1_init_24 rfl ?_
  refine R_bipush (nI 6) dX1_init_25 rfl ?_
  refine C_newa [.inr (1, [.int (nI 0), .int (nI 0), .int (nI 0), .int (nI 0), .null, .null, .null, .null, .null, .null, .null, .null, .null]), .inl (0, 6, .inl (fun _ => 0))] dX1_init_27 (by first | exact Or.inl rfl | exact Or.inr (Or.inl rfl) | exact Or.inr (Or.inr rfl)) xi_ac_int rfl rfl rfl rfl ha rfl rfl ?_
  refine C_putF [.int (nI 0), .int (nI 0), .int (nI 0), .int (nI 0), .ref (a + 1), .null, .null, .null, .null, .null, .null, .null, .null] dX1_init_29 f_X1_24 rfl rfl ha (Nat.le_of_ble_eq_true rfl) (fun _ => rfl) (fun _ => rfl) rfl ?_
  refine R_aload_n dX1_init_32 rfl ?_
  refine R_bipush (nI 8) dX1_init_33 rfl ?_
  refine C_newa [.inr (1, [.int (nI 0), .int (nI 0), .int (nI 0), .int (nI 0), .ref (a + 1), .null, .null, .null, .null, .null, .null, .null, .null]), .inl (0, 6, .inl (fun _ => 0)), .inl (0, 8, .inl (fun _ => 0))] dX1_init_35 (by first | exact Or.inl rfl | exact Or.inr (Or.inl rfl) | exact Or.inr (Or.inr rfl)) xi_ac_int rfl rfl rfl rfl ha rfl rfl ?_
  refine C_putF [.int (nI 0), .int (nI 0), .int (nI 0), .int (nI 0), .ref (a + 1), .ref (a + 2), .null, .null, .null, .null, .null, .null, .null] dX1_init_37 f_X1_28 rfl rfl ha (Nat.le_of_ble_eq_true rfl) (fun _ => rfl) (fun _ => rfl) rfl ?_
  refine R_aload_n dX1_init_40 rfl ?_
  refine R_bipush (nI 8) dX1_init_41 rfl ?_
  refine C_newa [.inr (1, [.int (nI 0), .int (nI 0), .int (nI 0), .int (nI 0), .ref (a + 1), .ref (a + 2), .null, .null, .null, .null, .null, .null, .null]), .inl (0, 6, .inl (fun _ => 0)), .inl (0, 8, .inl (fun _ => 0)), .inl (0, 8, .inl (fun _ => 0))] dX1_init_43 (by first | exact Or.inl rfl | exact Or.inr (Or.inl rfl) | exact Or.inr (Or.inr rfl)) xi_ac_int rfl rfl rfl rfl ha rfl rfl ?_
  refine C_putF [.int (nI 0), .int (nI 0), .int (nI 0), .int (nI 0), .ref (a + 1), .ref (a + 2), .ref (a + 3), .null, .null, .null, .null, .null, .null] dX1_init_45 f_X1_31 rfl rfl ha (Nat.le_of_ble_eq_true rfl) (fun _ => rfl) (fun _ => rfl) rfl ?_
  refine R_aload_n dX1_init_48 rfl ?_
  refine R_bipush (nI 8) dX1_init_49 rfl ?_
  refine C_newa [.inr (1, [.int (nI 0), .int (nI 0), .int (nI 0), .int (nI 0), .ref (a + 1), .ref (a + 2), .ref (a + 3), .null, .null, .null, .null, .null, .null]), .inl (0, 6, .inl (fun _ => 0)), .inl (0, 8, .inl (fun _ => 0)), .inl (0, 8, .inl (fun _ => 0)), .inl (0, 8, .inl (fun _ => 0))] dX1_init_51 (by first | exact Or.inl rfl | exact Or.inr (Or.inl rfl) | exact Or.inr (Or.inr rfl)) xi_ac_int rfl rfl rfl rfl ha rfl rfl ?_
  refine C_putF [.int (nI 0), .int (nI 0), .int (nI 0), .int (nI 0), .ref (a + 1), .ref (a + 2), .ref (a + 3), .ref (a + 4), .null, .null, .null, .null, .null] dX1_init_53 f_X1_34 rfl rfl ha (Nat.le_of_ble_eq_true rfl) (fun _ => rfl) (fun _ => rfl) rfl ?_
  refine R_aload_n dX1_init_56 rfl ?_
  refine R_bipush (nI 6) dX1_init_57 rfl ?_
  refine C_newa [.inr (1, [.int (nI 0), .int (nI 0), .int (nI 0), .int (nI 0), .ref (a + 1), .ref (a + 2), .ref (a + 3), .ref (a + 4), .null, .null, .null, .null, .null]), .inl (0, 6, .inl (fun _ => 0)), .inl (0, 8, .inl (fun _ => 0)), .inl (0, 8, .inl (fun _ => 0)), .inl (0, 8, .inl (fun _ => 0)), .inl (0, 6, .inl (fun _ => 0))] dX1_init_59 (by first | exact Or.inl rfl | exact Or.inr (Or.inl rfl) | exact Or.inr (Or.inr rfl)) xi_ac_int rfl rfl rfl rfl ha rfl rfl ?_
  refine C_putF [.int (nI 0), .int (nI 0), .int (nI 0), .int (nI 0), .ref (a + 1), .ref (a + 2), .ref (a + 3), .ref (a + 4), .ref (a + 5), .null, .null, .null, .null] dX1_init_61 f_X1_37 rfl rfl ha (Nat.le_of_ble_eq_true rfl) (fun _ => rfl) (fun _ => rfl) rfl ?_
  refine R_aload_n dX1_init_64 rfl ?_
  refine R_bipush (nI 6) dX1_init_65 rfl ?_
  refine C_newa [.inr (1, [.int (nI 0), .int (nI 0), .int (nI 0), .int (nI 0), .ref (a + 1), .ref (a + 2), .ref (a + 3), .ref (a + 4), .ref (a + 5), .null, .null, .null, .null]), .inl (0, 6, .inl (fun _ => 0)), .inl (0, 8, .inl (fun _ => 0)), .inl (0, 8, .inl (fun _ => 0)), .inl (0, 8, .inl (fun _ => 0)), .inl (0, 6, .inl (fun _ => 0)), .inl (0, 6, .inl (fun _ => 0))] dX1_init_67 (by first | exact Or.inl rfl | exact Or.inr (Or.inl rfl) | exact Or.inr (Or.inr rfl)) xi_ac_int rfl rfl rfl rfl ha rfl rfl ?_
  refine C_putF [.int (nI 0), .int (nI 0), .int (nI 0), .int (nI 0), .ref (a + 1), .ref (a + 2), .ref (a + 3), .ref (a + 4), .ref (a + 5), .ref (a + 6), .null, .null, .null] dX1_init_69 f_X1_40 rfl rfl ha (Nat.le_of_ble_eq_true rfl) (fun _ => rfl) (fun _ => rfl) rfl ?_
  refine R_aload_n dX1_init_72 rfl ?_
  refine R_bipush (nI 6) dX1_init_73 rfl ?_
  refine C_newa [.inr (1, [.int (nI 0), .int (nI 0), .int (nI 0), .int (nI 0), .ref (a + 1), .ref (a + 2), .ref (a + 3), .ref (a + 4), .ref (a + 5), .ref (a + 6), .null, .null, .null]), .inl (0, 6, .inl (fun _ => 0)), .inl (0, 8, .inl (fun _ => 0)), .inl (0, 8, .inl (fun _ => 0)), .inl (0, 8, .inl (fun _ => 0)), .inl (0, 6, .inl (fun _ => 0)), .inl (0, 6, .inl (fun _ => 0)), .inl (0, 6, .inl (fun _ => 0))] dX1_init_75 (by first | exact Or.inl rfl | exact Or.inr (Or.inl rfl) | exact Or.inr (Or.inr rfl)) xi_ac_int rfl rfl rfl rfl ha rfl rfl ?_
  refine C_putF [.int (nI 0), .int (nI 0), .int (nI 0), .int (nI 0), .ref (a + 1), .ref (a + 2), .ref (a + 3), .ref (a + 4), .ref (a + 5), .ref (a + 6), .ref (a + 7), .null, .null] dX1_init_77 f_X1_43 rfl rfl ha (Nat.le_of_ble_eq_true rfl) (fun _ => rfl) (fun _ => rfl) rfl ?_
  refine R_aload_n dX1_init_80 rfl ?_
  refine R_bipush (nI 6) dX1_init_81 rfl ?_
  refine R_bipush (nI 6) dX1_init_83 rfl ?_
  refine C_multi (kd := 0) (ty := .int) [.inr (1, [.int (nI 0), .int (nI 0), .int (nI 0), .int (nI 0), .ref (a + 1), .ref (a + 2), .ref (a + 3), .ref (a + 4), .ref (a + 5), .ref (a + 6), .ref (a + 7), .null, .null]), .inl (0, 6, .inl (fun _ => 0)), .inl (0, 8, .inl (fun _ => 0)), .inl (0, 8, .inl (fun _ => 0)), .inl (0, 8, .inl (fun _ => 0)), .inl (0, 6, .inl (fun _ => 0)), .inl (0, 6, .inl (fun _ => 0)), .inl (0, 6, .inl (fun _ => 0)), .inl (4, 6, .inr (.inr (.inr (.inr (fun i => if i < 6 then some (a + 8 + 1 + i) else none))))), .inl (0, 6, .inl (fun _ => 0)), .inl (0, 6, .inl (fun _ => 0)), .inl (0, 6, .inl (fun _ => 0)), .inl (0, 6, .inl (fun _ => 0)), .inl (0, 6, .inl (fun _ => 0)), .inl (0, 6, .inl (fun _ => 0))] dX1_init_85 (by first | exact Or.inl ⟨rfl, rfl⟩ | exact Or.inr ⟨rfl, rfl⟩) k_X1_46 xi_ac_int rfl rfl rfl rfl rfl rfl ha rfl rfl ?_
  refine C_putF [.int (nI 0), .int (nI 0), .int (nI 0), .int (nI 0), .ref (a + 1), .ref (a + 2), .ref (a + 3), .ref (a + 4), .ref (a + 5), .ref (a + 6), .ref (a + 7), .ref (a + 8), .null] dX1_init_89 f_X1_48 rfl rfl ha (Nat.le_of_ble_eq_true rfl) (fun _ => rfl) (fun _ => rfl) rfl ?_
  refine R_aload_n dX1_init_92 rfl ?_
  refine R_bipush (nI 6) dX1_init_93 rfl ?_
  refine R_bipush (nI 6) dX1_init_95 rfl ?_
  refine C_multi (kd := 0) (ty := .int) [.inr (1, [.int (nI 0), .int (nI 0), .int (nI 0), .int (nI 0), .ref (a + 1), .ref (a + 2), .ref (a + 3), .ref (a + 4), .ref (a + 5), .ref (a + 6), .ref (a + 7), .ref (a + 8), .null]), .inl (0, 6, .inl (fun _ => 0)), .inl (0, 8, .inl (fun _ => 0)), .inl (0, 8, .inl (fun _ => 0)), .inl (0, 8, .inl (fun _ => 0)), .inl (0, 6, .inl (fun _ => 0)), .inl (0, 6, .inl (fun _ => 0)), .inl (0, 6, .inl (fun _ => 0)), .inl (4, 6, .inr (.inr (.inr (.inr (fun i => if i < 6 then some (a + 8 + 1 + i) else none))))), .inl (0, 6, .inl (fun _ => 0)), .inl (0, 6, .inl (fun _ => 0)), .inl (0, 6, .inl (fun _ => 0)), .inl (0, 6, .inl (fun _ => 0)), .inl (0, 6, .inl (fun _ => 0)), .inl (0, 6, .inl (fun _ => 0)), .inl (4, 6, .inr (.inr (.inr (.inr (fun i => if i < 6 then some (a + 15 + 1 + i) else none))))), .inl (0, 6, .inl (fun _ => 0)), .inl (0, 6, .inl (fun _ => 0)), .inl (0, 6, .inl (fun _ => 0)), .inl (0, 6, .inl (fun _ => 0)), .inl (0, 6, .inl (fun _ => 0)), .inl (0, 6, .inl (fun _ => 0))] dX1_init_97 (by first | exact Or.inl ⟨rfl, rfl⟩ | exact Or.inr ⟨rfl, rfl⟩) k_X1_46 xi_ac_int rfl rfl rfl rfl rfl rfl ha rfl rfl ?_
  refine C_putF [.int (nI 0), .int (nI 0), .int (nI 0), .int (nI 0), .ref (a + 1), .ref (a + 2), .ref (a + 3), .ref (a + 4), .ref (a + 5), .ref (a + 6), .ref (a + 7), .ref (a + 8), .ref (a + 15)] dX1_init_101 f_X1_51 rfl rfl ha (Nat.le_of_ble_eq_true rfl) (fun _ => rfl) (fun _ => rfl) rfl ?_
  refine R_vret dX1_init_104 rfl rfl rfl ⟨rfl, ?_, ?_, ?_⟩
  · rw [List.length_append, ha]; rfl
  · have G : ∀ j, (h0 ++ [.inr (1, [.int (nI 0), .int (nI 0), .int (nI 0), .int (nI 0), .ref (a + 1), .ref (a + 2), .ref (a + 3), .ref (a + 4), .ref (a + 5), .ref (a + 6), .ref (a + 7), .ref (a + 8), .ref (a + 15)]), .inl (0, 6, .inl (fun _ => 0)), .inl (0, 8, .inl (fun _ => 0)), .inl (0, 8, .inl (fun _ => 0)), .inl (0, 8, .inl (fun _ => 0)), .inl (0, 6, .inl (fun _ => 0)), .inl (0, 6, .inl (fun _ => 0)), .inl (0, 6, .inl (fun _ => 0)), .inl (4, 6, .inr (.inr (.inr (.inr (fun i => if i < 6 then some (a + 8 + 1 + i) else none))))), .inl (0, 6, .inl (fun _ => 0)), .inl (0, 6, .inl (fun _ => 0)), .inl (0, 6, .inl (fun _ => 0)), .inl (0, 6, .inl (fun _ => 0)), .inl (0, 6, .inl (fun _ => 0)), .inl (0, 6, .inl (fun _ => 0)), .inl (4, 6, .inr (.inr (.inr (.inr (fun i => if i < 6 then some (a + 15 + 1 + i) else none))))), .inl (0, 6, .inl (fun _ => 0)), .inl (0, 6, .inl (fun _ => 0)), .inl (0, 6, .inl (fun _ => 0)), .inl (0, 6, .inl (fun _ => 0)), .inl (0, 6, .inl (fun _ => 0)), .inl (0, 6, .inl (fun _ => 0))])[a + j]? = ([.inr (1, [.int (nI 0), .int (nI 0), .int (nI 0), .int (nI 0), .ref (a + 1), .ref (a + 2), .ref (a + 3), .ref (a + 4), .ref (a + 5), .ref (a + 6), .ref (a + 7), .ref (a + 8), .ref (a + 15)]), .inl (0, 6, .inl (fun _ => 0)), .inl (0, 8, .inl (fun _ => 0)), .inl (0, 8, .inl (fun _ => 0)), .inl (0, 8, .inl (fun _ => 0)), .inl (0, 6, .inl (fun _ => 0)), .inl (0, 6, .inl (fun _ => 0)), .inl (0, 6, .inl (fun _ => 0)), .inl (4, 6, .inr (.inr (.inr (.inr (fun i => if i < 6 then some (a + 8 + 1 + i) else none))))), .inl (0, 6, .inl (fun _ => 0)), .inl (0, 6, .inl (fun _ => 0)), .inl (0, 6, .inl (fun _ => 0)), .inl (0, 6, .inl (fun _ => 0)), .inl (0, 6, .inl (fun _ => 0)), .inl (0, 6, .inl (fun _ => 0)), .inl (4, 6, .inr (.inr (.inr (.inr (fun i => if i < 6 then some (a + 15 + 1 + i) else none))))), .inl (0, 6, .inl (fun _ => 0)), .inl (0, 6, .inl (fun _ => 0)), .inl (0, 6, .inl (fun _ => 0)), .inl (0, 6, .inl (fun _ => 0)), .inl (0, 6, .inl (fun _ => 0)), .inl (0, 6, .inl (fun _ => 0))] : xH)[j]? := fun j => x_apl ha
    exact ⟨h2, G 0, G 1, G 2, G 3, G 4, G 5, G 6, G 7, G 8, (fun j hj => match j, hj with | 0, _ => G 9 | 1, _ => G 10 | 2, _ => G 11 | 3, _ => G 12 | 4, _ => G 13 | 5, _ => G 14 | j + 6, h => absurd h (by omega)), G 15, (fun j hj => match j, hj with | 0, _ => G 16 | 1, _ => G 17 | 2, _ => G 18 | 3, _ => G 19 | 4, _ => G 20 | 5, _ => G 21 | j + 6, h => absurd h (by omega))⟩
  · intro q hq; rw [List.getElem?_append_left (by omega), List.getElem?_append_left (by omega)]
theorem c_X3_init {h : xH} {a : Nat} (hl : h.length = a + 1) (ho : h[a]? = some d_3) (h2 : 2 ≤ a) : x_Met m_X3_init [.ref a] h (x_vd (fun h' => h'.length = a + 15 ∧ x_Plan h' a (-1) (-1) xA0 xA0 ∧ ∀ q, q < a → h'[q]? = h[q]?)) := by
  obtain ⟨h0, ha, rfl⟩ := x_last hl ho
  refine x_Met.of (lo := [some (.ref a)]) (by decide) rfl rfl rfl ?_
  show x_Rn m_X3_init 0 _ _ (h0 ++ [.inr (3, [.int 0, .int 0, .null, .null])]) _ _
  refine R_aload_n dX3_init_0 rfl ?_
  refine R_obj dX3_init_1 l_X3_3 xi_obi xi_obc rfl rfl rfl ?_
  refine R_aload_n dX3_init_4 rfl ?_
  refine R_iconst (-1) dX3_init_5 rfl ?_
  refine C_put [.int (-1), .int 0, .null, .null] dX3_init_6 f_X3_9 ha (Nat.le_of_ble_eq_true rfl) (fun _ => rfl) (fun _ => rfl) rfl ?_
  refine R_aload_n dX3_init_9 rfl ?_
  refine R_iconst (-1) dX3_init_10 rfl ?_
  refine C_put [.int (-1), .int (-1), .null, .null] dX3_init_11 f_X3_15 ha (Nat.le_of_ble_eq_true rfl) (fun _ => rfl) (fun _ => rfl) rfl ?_
  refine R_aload_n dX3_init_14 rfl ?_
  refine R_bipush (nI 6) dX3_init_15 rfl ?_
  refine R_bipush (nI 7) dX3_init_17 rfl ?_
  refine C_multi (kd := 1) (ty := .long) [.inr (3, [.int (-1), .int (-1), .null, .null]), .inl (5, 6, .inr (.inr (.inr (.inr (fun i => if i < 6 then some (a + 1 + 1 + i) else none))))), .inl (1, 7, .inr (.inl (fun _ => 0))), .inl (1, 7, .inr (.inl (fun _ => 0))), .inl (1, 7, .inr (.inl (fun _ => 0))), .inl (1, 7, .inr (.inl (fun _ => 0))), .inl (1, 7, .inr (.inl (fun _ => 0))), .inl (1, 7, .inr (.inl (fun _ => 0)))] dX3_init_19 (by first | exact Or.inl ⟨rfl, rfl⟩ | exact Or.inr ⟨rfl, rfl⟩) k_X3_18 xi_ac_long rfl rfl rfl rfl rfl rfl ha rfl rfl ?_
  refine C_putF [.int (-1), .int (-1), .ref (a + 1), .null] dX3_init_23 f_X3_20 rfl rfl ha (Nat.le_of_ble_eq_true rfl) (fun _ => rfl) (fun _ => rfl) rfl ?_
  refine R_aload_n dX3_init_26 rfl ?_
  refine R_bipush (nI 6) dX3_init_27 rfl ?_
  refine R_bipush (nI 7) dX3_init_29 rfl ?_
  refine C_multi (kd := 1) (ty := .long) [.inr (3, [.int (-1), .int (-1), .ref (a + 1), .null]), .inl (5, 6, .inr (.inr (.inr (.inr (fun i => if i < 6 then some (a + 1 + 1 + i) else none))))), .inl (1, 7, .inr (.inl (fun _ => 0))), .inl (1, 7, .inr (.inl (fun _ => 0))), .inl (1, 7, .inr (.inl (fun _ => 0))), .inl (1, 7, .inr (.inl (fun _ => 0))), .inl (1, 7, .inr (.inl (fun _ => 0))), .inl (1, 7, .inr (.inl (fun _ => 0))), .inl (5, 6, .inr (.inr (.inr (.inr (fun i => if i < 6 then some (a + 8 + 1 + i) else none))))), .inl (1, 7, .inr (.inl (fun _ => 0))), .inl (1, 7, .inr (.inl (fun _ => 0))), .inl (1, 7, .inr (.inl (fun _ => 0))), .inl (1, 7, .inr (.inl (fun _ => 0))), .inl (1, 7, .inr (.inl (fun _ => 0))), .inl (1, 7, .inr (.inl (fun _ => 0)))] dX3_init_31 (by first | exact Or.inl ⟨rfl, rfl⟩ | exact Or.inr ⟨rfl, rfl⟩) k_X3_18 xi_ac_long rfl rfl rfl rfl rfl rfl ha rfl rfl ?_
  refine C_putF [.int (-1), .int (-1), .ref (a + 1), .ref (a + 8)] dX3_init_35 f_X3_23 rfl rfl ha (Nat.le_of_ble_eq_true rfl) (fun _ => rfl) (fun _ => rfl) rfl ?_
  refine R_vret dX3_init_38 rfl rfl rfl ⟨rfl, ?_, ?_, ?_⟩
  · rw [List.length_append, ha]; rfl
  · have G : ∀ j, (h0 ++ [.inr (3, [.int (-1), .int (-1), .ref (a + 1), .ref (a + 8)]), .inl (5, 6, .inr (.inr (.inr (.inr (fun i => if i < 6 then some (a + 1 + 1 + i) else none))))), .inl (1, 7, .inr (.inl (fun _ => 0))), .inl (1, 7, .inr (.inl (fun _ => 0))), .inl (1, 7, .inr (.inl (fun _ => 0))), .inl (1, 7, .inr (.inl (fun _ => 0))), .inl (1, 7, .inr (.inl (fun _ => 0))), .inl (1, 7, .inr (.inl (fun _ => 0))), .inl (5, 6, .inr (.inr (.inr (.inr (fun i => if i < 6 then some (a + 8 + 1 + i) else none))))), .inl (1, 7, .inr (.inl (fun _ => 0))), .inl (1, 7, .inr (.inl (fun _ => 0))), .inl (1, 7, .inr (.inl (fun _ => 0))), .inl (1, 7, .inr (.inl (fun _ => 0))), .inl (1, 7, .inr (.inl (fun _ => 0))), .inl (1, 7, .inr (.inl (fun _ => 0)))])[a + j]? = ([.inr (3, [.int (-1), .int (-1), .ref (a + 1), .ref (a + 8)]), .inl (5, 6, .inr (.inr (.inr (.inr (fun i => if i < 6 then some (a + 1 + 1 + i) else none))))), .inl (1, 7, .inr (.inl (fun _ => 0))), .inl (1, 7, .inr (.inl (fun _ => 0))), .inl (1, 7, .inr (.inl (fun _ => 0))), .inl (1, 7, .inr (.inl (fun _ => 0))), .inl (1, 7, .inr (.inl (fun _ => 0))), .inl (1, 7, .inr (.inl (fun _ => 0))), .inl (5, 6, .inr (.inr (.inr (.inr (fun i => if i < 6 then some (a + 8 + 1 + i) else none))))), .inl (1, 7, .inr (.inl (fun _ => 0))), .inl (1, 7, .inr (.inl (fun _ => 0))), .inl (1, 7, .inr (.inl (fun _ => 0))), .inl (1, 7, .inr (.inl (fun _ => 0))), .inl (1, 7, .inr (.inl (fun _ => 0))), .inl (1, 7, .inr (.inl (fun _ => 0)))] : xH)[j]? := fun j => x_apl ha
    exact ⟨h2, G 0, G 1, (fun j hj => match j, hj with | 0, _ => G 2 | 1, _ => G 3 | 2, _ => G 4 | 3, _ => G 5 | 4, _ => G 6 | 5, _ => G 7 | j + 6, h => absurd h (by omega)), G 8, (fun j hj => match j, hj with | 0, _ => G 9 | 1, _ => G 10 | 2, _ => G 11 | 3, _ => G 12 | 4, _ => G 13 | 5, _ => G 14 | j + 6, h => absurd h (by omega))⟩
  · intro q hq; rw [List.getElem?_append_left (by omega), List.getElem?_append_left (by omega)]
