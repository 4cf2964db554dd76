/-! THE ABSTRACT MACHINE: a heap of numbered cells (number 0: the script, 1: the static table, the rest as they were made, one behind another), frames over it. x_Rn: from this frame the method comes to its end; x_Met: a method's contract, from one heap to what holds of the next. -/
abbrev xC : Type := (Nat × vp_A) ⊕ (Nat × List Value)
abbrev xH : Type := List xC
/-- base (where our cells begin), the script's cell, the table's cell, the classes' numbers and slots, the array classes -/
abbrev xG : Type := Nat × Nat × Nat × va_G × (Nat → ClassId)
def x_sg (G : xG) : Nat → Nat
  | 0 => G.2.1
  | 1 => G.2.2.1
  | i + 2 => G.1 + i
def x_cv (G : xG) : Value → Value
  | .ref i => .ref (x_sg G i)
  | v => v
def x_ca (G : xG) (a : vp_A) : vp_A := match a with
  | (n, .inr (.inr (.inr (.inr f)))) => (n, .inr (.inr (.inr (.inr (fun j => (f j).map (x_sg G))))))
  | a => a
def x_ce (G : xG) (c : xC) : va_E := match c with
  | .inl (k, a) => .inl (G.2.2.2.2 k, x_ca G a)
  | .inr (ci, fs) => .inr (ci, fs.map (x_cv G))
def x_ws (G : xG) (h : xH) : va_W := (h.drop 2).mapIdx (fun i e => (G.1 + i, x_ce G e))
theorem x_cv_cat (G : xG) (v : Value) : (x_cv G v).category = v.category := by cases v <;> rfl
theorem x_cv_rf (G : xG) (o : Option Nat) : x_cv G (va_rf o) = va_rf (o.map (x_sg G)) := by cases o <;> rfl
theorem x_ws_get {G : xG} {h : xH} {i : Nat} {e : xC} (hi : h[i + 2]? = some e) : (x_ws G h)[i]? = some (x_sg G (i + 2), x_ce G e) := by
  unfold x_ws
  rw [List.getElem?_mapIdx, List.getElem?_drop, Nat.add_comm 2 i, hi]
  rfl
theorem x_ws_of {G : xG} {h : xH} {i : Nat} {q : Nat × va_E} (hi : (x_ws G h)[i]? = some q) : ∃ e, h[i + 2]? = some e ∧ q = (G.1 + i, x_ce G e) := by
  unfold x_ws at hi
  rw [List.getElem?_mapIdx, List.getElem?_drop, Nat.add_comm 2 i] at hi
  cases he : h[i + 2]? with
  | none => rw [he] at hi; cases hi
  | some e => rw [he] at hi; exact ⟨e, rfl, (Option.some.inj hi).symm⟩
theorem x_ws_set (G : xG) (h : xH) (i : Nat) (e : xC) : x_ws G (h.set (i + 2) e) = (x_ws G h).set i (x_sg G (i + 2), x_ce G e) := by
  apply List.ext_getElem?
  intro j
  unfold x_ws
  rw [List.getElem?_mapIdx, List.getElem?_drop, List.getElem?_set, List.getElem?_set, List.getElem?_mapIdx, List.getElem?_drop]
  by_cases hj : i = j
  · subst hj
    rw [if_pos (by omega), if_pos rfl]
    have hl : ((h.drop 2).mapIdx (fun i e => (G.1 + i, x_ce G e))).length = h.length - 2 := by simp
    rw [hl]
    by_cases hb : i < h.length - 2
    · rw [if_pos hb, if_pos (by omega)]; rfl
    · rw [if_neg hb, if_neg (by omega)]; rfl
  · rw [if_neg (by omega), if_neg hj]
theorem x_ws_push (G : xG) (h : xH) (e : xC) (h2 : 2 ≤ h.length) : x_ws G (h ++ [e]) = x_ws G h ++ [(G.1 + (h.length - 2), x_ce G e)] := by
  unfold x_ws
  rw [List.drop_append_of_le_length h2, List.mapIdx_append]
  simp
theorem x_ws_len (G : xG) (h : xH) : (x_ws G h).length = h.length - 2 := by unfold x_ws; simp
theorem x_ws_D (G : xG) (h : xH) : va_D (fun q => G.1 ≤ q) (x_ws G h) := by
  refine ⟨fun i j p q hi hj hpq => ?_, fun k q hk => ?_⟩
  · obtain ⟨e, -, rfl⟩ := x_ws_of hi
    obtain ⟨e', -, rfl⟩ := x_ws_of hj
    have : G.1 + i = G.1 + j := hpq
    omega
  · obtain ⟨e, -, rfl⟩ := x_ws_of hk
    exact Nat.le_add_right _ _
def x_tys (G : xG) : List (ClassId × FieldType) := [(G.2.2.2.2 0, .int), (G.2.2.2.2 1, .long), (G.2.2.2.2 2, .boolean), (G.2.2.2.2 3, .object "LastSentence$Night"), (G.2.2.2.2 4, .array .int), (G.2.2.2.2 5, .array .long)]
def x_lack : Nat → Int64
  | 0 => 0x5555555555555555
  | 1 => 0x3333333333333333
  | 2 => 0x0f0f0f0f0f0f0f0f
  | 3 => 0x00ff00ff00ff00ff
  | 4 => 0x0000ffff0000ffff
  | _ => 0x00000000ffffffff
/-- what lies below our cells: the script, the static table -/
def x_Ext (G : xG) (h : xH) (U : State) (H : Heap) : Prop := G.2.1 < G.1 ∧ (∃ (L : Nat) (xs : Nat → Int32), h[0]? = some (.inl (0, L, .inl xs)) ∧ va_X G.2.1 L xs U H) ∧
  h[1]? = some (.inl (1, 6, .inr (.inl x_lack))) ∧ va_T .long G.2.2.1 6 (fun j => .long (x_lack j)) (fun q => G.1 ≤ q) U H ∧ va_Z "LastSentence" "LACKING" "[J" (.ref G.2.2.1) (fun q => G.1 ≤ q) U H
/-- words that are carried one by one: nest mates' links, arrays over reference types -/
def x_nest : List Cond := [.fieldLinkNest "LastSentence$Planner" 102 "LastSentence" "LACKING" "[J" "LastSentence",
  .methodLinkNest "LastSentence" 9 yX5_init "LastSentence", .methodLinkNest "LastSentence" 18 yX1_init "LastSentence", .methodLinkNest "LastSentence" 28 yX2_init "LastSentence", .methodLinkNest "LastSentence" 54 yX3_init "LastSentence", .methodLinkNest "LastSentence" 61 yX4_init "LastSentence", .methodLinkNest "LastSentence" 68 yX0_init "LastSentence", .methodLinkNest "LastSentence$Trail" 24 yX2_init "LastSentence"]
def x_AOA (t : FieldType) (U : State) : Prop := (Cond.arrayOver (.array t)).before #[] U = true
def x_Sp (U : State) : Prop := (∀ w ∈ x_nest, va_Nw w U) ∧ va_AO "LastSentence$Night" U ∧ x_AOA .int U ∧ x_AOA .long U
theorem x_AOA.moved {t : FieldType} {u U : State} (hvm : u.vm.Alike U.vm) (h : x_AOA t u) : x_AOA t U := by
  obtain ⟨b, a, h1⟩ := x_over_iff.mp h
  exact x_over_iff.mpr ⟨b, a, h1.moved hvm⟩
theorem x_Sp.warm {s U : State} (hW : s.WarmedH U.vm) (h : x_Sp s) : x_Sp U := by
  refine ⟨fun w hw => ?_, h.2.1.moved hW.alike, h.2.2.1.moved hW.alike, h.2.2.2.moved hW.alike⟩
  have h1 := h.1 w hw
  simp only [x_nest, List.mem_cons, List.not_mem_nil, or_false] at hw
  rcases hw with rfl | rfl | rfl | rfl | rfl | rfl | rfl | rfl
  · exact va_Nw.warmF hW h1
  all_goals exact va_Nw.warmM hW h1
def x_Rep (G : xG) (h : xH) (U : State) (H : Heap) : Prop := 2 ≤ h.length ∧ H.size = G.1 + (h.length - 2) ∧ va_P G.2.2.2.1 vwCl (x_ws G h) H ∧ va_K G.2.2.2.1 vwCl (x_tys G) U ∧ x_Ext G h U H ∧ x_Sp U
theorem x_Ext.kept {G : xG} {h h' : xH} {U : State} {H H1 : Heap} (e : x_Ext G h U H) (h0 : h'[0]? = h[0]?) (h1 : h'[1]? = h[1]?) (hq : ∀ q : Nat, q < H.size → ¬ G.1 ≤ q → H1[q]? = H[q]?) : x_Ext G h' U H1 := by
  obtain ⟨e1, ⟨L, xs, e2, e3⟩, e4, e5, e6⟩ := e
  have hb : G.2.1 < H.size := by
    obtain ⟨scr, g1, -⟩ := e3
    exact (Array.getElem?_eq_some_iff.mp g1).1
  exact ⟨e1, ⟨L, xs, h0.trans e2, e3.kept (hq _ hb (by omega))⟩, h1.trans e4, e5.kept hq, e6.kept hq⟩
theorem x_Ext.moved {G : xG} {h : xH} {u U : State} {H : Heap} (hvm : u.vm.Alike U.vm) (e : x_Ext G h u H) : x_Ext G h U H := by
  obtain ⟨e1, ⟨L, xs, e2, e3⟩, e4, e5, e6⟩ := e
  exact ⟨e1, ⟨L, xs, e2, e3.moved hvm⟩, e4, e5.moved hvm, e6.moved hvm⟩
theorem x_Rep.warm {G : xG} {h : xH} {s U : State} {H : Heap} (hW : s.WarmedH U.vm) (r : x_Rep G h s H) : x_Rep G h U H :=
  ⟨r.1, r.2.1, r.2.2.1, va_K.moved hW.alike r.2.2.2.1, r.2.2.2.2.1.moved hW.alike, r.2.2.2.2.2.warm hW⟩
theorem x_Rep.at {G : xG} {h : xH} {U : State} {H : Heap} (r : x_Rep G h U H) {i : Nat} {e : xC} (hi : h[i + 2]? = some e) : va_at G.2.2.2.1 vwCl (x_sg G (i + 2), x_ce G e) H := r.2.2.1 i _ (x_ws_get hi)
/-- a cell of ours is another -/
theorem x_Rep.set {G : xG} {h : xH} {U : State} {H H1 : Heap} {i : Nat} {e : xC} (r : x_Rep G h U H) (hP : va_P G.2.2.2.1 vwCl ((x_ws G h).set i (x_sg G (i + 2), x_ce G e)) H1) (hz : H1.size = H.size) (hq : ∀ q : Nat, ¬ G.1 ≤ q → H1[q]? = H[q]?) : x_Rep G (h.set (i + 2) e) U H1 := by
  obtain ⟨r1, r2, r3, r4, r5, r6⟩ := r
  refine ⟨by rw [List.length_set]; exact r1, by rw [List.length_set, hz]; exact r2, by rw [x_ws_set]; exact hP, r4, r5.kept ?_ ?_ (fun q _ h => hq q h), r6⟩
  · rw [List.getElem?_set, if_neg (by omega)]
  · rw [List.getElem?_set, if_neg (by omega)]
/-- a cell is made -/
theorem x_Rep.push {G : xG} {h : xH} {U : State} {H H1 : Heap} {e : xC} (r : x_Rep G h U H) (hz : H1.size = H.size + 1) (hq : ∀ q : Nat, q < H.size → H1[q]? = H[q]?) (he : va_at G.2.2.2.1 vwCl (G.1 + (h.length - 2), x_ce G e) H1) : x_Rep G (h ++ [e]) U H1 := by
  obtain ⟨r1, r2, r3, r4, r5, r6⟩ := r
  refine ⟨by rw [List.length_append]; omega, by rw [List.length_append, hz, r2]; simp; omega, ?_, r4, r5.kept ?_ ?_ (fun q h1 _ => hq q h1), r6⟩
  · rw [x_ws_push G h e r1]
    refine va_P.app (r3.kept (fun k q hk => hq _ ((r3 k q hk).lt))) (fun k q hk => ?_)
    have hk0 : k < 1 := (List.getElem?_eq_some_iff.mp hk).1
    have e0 : k = 0 := by omega
    subst e0
    cases hk
    exact he
  · rw [List.getElem?_append_left (by omega)]
  · rw [List.getElem?_append_left (by omega)]
def x_ok (lo : List (Option Value)) (i : Nat) : Bool := match i with
  | 0 => true
  | j + 1 => match lo[j]? with
    | some (some v) => v.category == 1
    | _ => true
def x_LH (ls : Array Slot) (n : Nat) (lo : List (Option Value)) : Prop := ls.size = n ∧ lv_wf ls ∧ ∀ (i : Nat) (v : Value), lo[i]? = some (some v) → ls[i]? = some (.val v)
def x_pairs (lo : List (Option Value)) : List (Nat × Value) := (List.range lo.length).filterMap (fun i => match lo[i]? with | some (some v) => some (i, v) | _ => none)
theorem x_pairs_mem {lo : List (Option Value)} {i : Nat} {v : Value} : (i, v) ∈ x_pairs lo ↔ lo[i]? = some (some v) := by
  unfold x_pairs
  rw [List.mem_filterMap]
  constructor
  · rintro ⟨j, hj, hm⟩
    cases h : lo[j]? with
    | none => rw [h] at hm; cases hm
    | some o =>
      cases o with
      | none => rw [h] at hm; cases hm
      | some w => rw [h] at hm; cases hm; exact h
  · intro h
    refine ⟨i, List.mem_range.mpr (List.getElem?_eq_some_iff.mp h).1, ?_⟩
    rw [h]
theorem x_LH.has {ls : Array Slot} {n : Nat} {lo : List (Option Value)} (h : x_LH ls n lo) : lv_has ls n (x_pairs lo) := ⟨h.1, h.2.1, fun q hq => h.2.2 q.1 q.2 (x_pairs_mem.mp hq)⟩
theorem x_LH.store1 {ls' : Array Slot} {n i : Nat} {v : Value} {lo : List (Option Value)} (hk : x_ok lo i = true) (h : lv_has ls' n ((i, v) :: (x_pairs lo).filter (fun q => !(q.1 == i) && !(q.1 + 1 == i && q.2.category == 2)))) : x_LH ls' n (lo.set i (some v)) := by
  refine ⟨h.1, h.2.1, fun j w hj => ?_⟩
  rw [List.getElem?_set] at hj
  by_cases e : i = j
  · subst e
    rw [if_pos rfl] at hj
    by_cases hl : i < lo.length
    · rw [if_pos hl] at hj
      cases hj
      exact h.2.2 (i, v) List.mem_cons_self
    · rw [if_neg hl] at hj; cases hj
  · rw [if_neg e] at hj
    refine h.2.2 (j, w) (List.mem_cons_of_mem _ (List.mem_filter.mpr ⟨x_pairs_mem.mpr hj, ?_⟩))
    have h1 : (j == i) = false := by simp; omega
    by_cases e2 : j + 1 = i
    · subst e2
      have hc : w.category = 1 := by
        simp only [x_ok, hj] at hk
        simpa using hk
      simp [hc]
    · have h2 : (j + 1 == i) = false := by simp; omega
      simp [h1, h2]
theorem x_LH.store2 {ls' : Array Slot} {n i : Nat} {v : Value} {lo : List (Option Value)} (hk : x_ok lo i = true) (h : lv_has ls' n ((i, v) :: (x_pairs lo).filter (fun q => !(q.1 == i) && (!(q.1 == i + 1) && !(q.1 + 1 == i && q.2.category == 2))))) : x_LH ls' n ((lo.set i (some v)).set (i + 1) none) := by
  refine ⟨h.1, h.2.1, fun j w hj => ?_⟩
  rw [List.getElem?_set] at hj
  by_cases e1 : i + 1 = j
  · rw [if_pos e1] at hj
    split at hj <;> cases hj
  · rw [if_neg e1, List.getElem?_set] at hj
    by_cases e : i = j
    · subst e
      rw [if_pos rfl] at hj
      by_cases hl : i < lo.length
      · rw [if_pos hl] at hj
        cases hj
        exact h.2.2 (i, v) List.mem_cons_self
      · rw [if_neg hl] at hj; cases hj
    · rw [if_neg e] at hj
      refine h.2.2 (j, w) (List.mem_cons_of_mem _ (List.mem_filter.mpr ⟨x_pairs_mem.mpr hj, ?_⟩))
      have h1 : (j == i) = false := by simp; omega
      have h3 : (j == i + 1) = false := by simp; omega
      by_cases e2 : j + 1 = i
      · subst e2
        have hc : w.category = 1 := by
          simp only [x_ok, hj] at hk
          simpa using hk
        simp [hc]
        omega
      · have h2 : (j + 1 == i) = false := by simp; omega
        simp [h1, h2, h3]
def x_mp (G : xG) (lo : List (Option Value)) : List (Option Value) := lo.map (Option.map (x_cv G))
theorem x_mp_get {G : xG} {lo : List (Option Value)} {i : Nat} {v : Value} (h : lo[i]? = some (some v)) : (x_mp G lo)[i]? = some (some (x_cv G v)) := by
  unfold x_mp
  rw [List.getElem?_map, h]
  rfl
theorem x_mp_set (G : xG) (lo : List (Option Value)) (i : Nat) (v : Option Value) : x_mp G (lo.set i v) = (x_mp G lo).set i (v.map (x_cv G)) := by
  unfold x_mp
  rw [List.map_set]
theorem x_mp_ok {G : xG} {lo : List (Option Value)} {i : Nat} (h : x_ok lo i = true) : x_ok (x_mp G lo) i = true := by
  cases i with
  | zero => rfl
  | succ j =>
    simp only [x_ok] at h ⊢
    cases hj : lo[j]? with
    | none => simp [x_mp, hj]
    | some o =>
      cases o with
      | none => simp [x_mp, hj]
      | some v =>
        rw [hj] at h
        simp only [x_mp_get hj, x_cv_cat]
        exact h
