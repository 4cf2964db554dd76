/-! STATE: what the cells hold, in numbers -/
section SN
variable {M : xM} {pc : Nat} {lo : List (Option Value)} {st : List Value} {h : xH} {cs : Nat × Nat} {K : Option Value → xH → Prop}
theorem R_ifeqN {a : Nat} {off : Int} (tgt : Nat) (hd : decode M.2.2.1 pc = .ok (.ifCond .eq off, 3)) (ht : (pc : Int) + off = (tgt : Int)) (ha : a < 2 ^ 31) (kt : a = 0 → x_Rn M tgt lo st h cs K) (kf : ¬ a = 0 → x_Rn M (pc + 3) lo st h cs K) : x_Rn M pc lo (.int (nI a) :: st) h cs K := R_ifeq tgt hd ht (fun z => kt ((nI_eq ha (by decide)).mp (z.trans nI_0.symm))) (fun z => kf (fun w => z (by rw [w]; rfl)))
theorem R_ifneN {a : Nat} {off : Int} (tgt : Nat) (hd : decode M.2.2.1 pc = .ok (.ifCond .ne off, 3)) (ht : (pc : Int) + off = (tgt : Int)) (ha : a < 2 ^ 31) (kt : ¬ a = 0 → x_Rn M tgt lo st h cs K) (kf : a = 0 → x_Rn M (pc + 3) lo st h cs K) : x_Rn M pc lo (.int (nI a) :: st) h cs K := R_ifne tgt hd ht (fun z => kt (fun w => z (by rw [w]; rfl))) (fun z => kf ((nI_eq ha (by decide)).mp (z.trans nI_0.symm)))
theorem R_ifleN {a : Nat} {off : Int} (tgt : Nat) (hd : decode M.2.2.1 pc = .ok (.ifCond .le off, 3)) (ht : (pc : Int) + off = (tgt : Int)) (ha : a < 2 ^ 31) (kt : a = 0 → x_Rn M tgt lo st h cs K) (kf : ¬ a = 0 → x_Rn M (pc + 3) lo st h cs K) : x_Rn M pc lo (.int (nI a) :: st) h cs K := R_ifle tgt hd ht (fun z => kt (by have := (nI_leI ha (by decide : (0 : Nat) < 2 ^ 31)).mp z; omega)) (fun z => kf (fun w => z (by rw [w]; decide)))
/-- a cell that lies in the heap already -/
theorem x_same {a : Nat} {e : xC} (ha : h[a]? = some e) : h.set a e = h := by
  apply List.ext_getElem?
  intro j
  rw [List.getElem?_set]
  by_cases hj : a = j
  · subst hj
    have hl := (List.getElem?_eq_some_iff.mp ha).1
    rw [if_pos rfl, if_pos hl, ha]
  · rw [if_neg hj]
end SN
theorem arrV_cong {c : ClassId} {n : Nat} {f g : Nat → Value} (hfg : ∀ j, j < n → f j = g j) : arrV c n f = arrV c n g := by
  unfold arrV
  congr 1
  apply Array.ext
  · simp
  · intro i h1 h2
    simp at h1
    simp [hfg i h1]
/-- what two heaps that hold the same are: the same cells, arrays alike within their lengths -/
def x_alk (e e' : xC) : Prop := ∀ (G : xG) (q : Nat) (H : Heap), va_at G.2.2.2.1 vwCl (q, x_ce G e) H → va_at G.2.2.2.1 vwCl (q, x_ce G e') H
theorem x_alk.rf (e : xC) : x_alk e e := fun _ _ _ z => z
theorem x_alk.I {k n : Nat} {f g : Nat → Int32} (hfg : ∀ j, j < n → f j = g j) : x_alk (.inl (k, n, .inl f)) (.inl (k, n, .inl g)) := by
  intro G q H z
  have z : H[q]? = some (arrV (G.2.2.2.2 k) n (fun j => .int (f j))) := z
  show H[q]? = some (arrV (G.2.2.2.2 k) n (fun j => .int (g j)))
  rw [z, arrV_cong (fun j hj => congrArg Value.int (hfg j hj))]
theorem x_alk.L {k n : Nat} {f g : Nat → Int64} (hfg : ∀ j, j < n → f j = g j) : x_alk (.inl (k, n, .inr (.inl f))) (.inl (k, n, .inr (.inl g))) := by
  intro G q H z
  have z : H[q]? = some (arrV (G.2.2.2.2 k) n (fun j => .long (f j))) := z
  show H[q]? = some (arrV (G.2.2.2.2 k) n (fun j => .long (g j)))
  rw [z, arrV_cong (fun j hj => congrArg Value.long (hfg j hj))]
theorem x_alk.Q {k n : Nat} {f g : Nat → Option Nat} (hfg : ∀ j, j < n → f j = g j) : x_alk (.inl (k, n, .inr (.inr (.inr (.inr f))))) (.inl (k, n, .inr (.inr (.inr (.inr g))))) := by
  intro G q H z
  have z : H[q]? = some (arrV (G.2.2.2.2 k) n (fun j => va_rf ((f j).map (x_sg G)))) := z
  show H[q]? = some (arrV (G.2.2.2.2 k) n (fun j => va_rf ((g j).map (x_sg G))))
  rw [z, arrV_cong (fun j hj => by rw [hfg j hj])]
theorem R_alk {M : xM} {pc : Nat} {lo : List (Option Value)} {st : List Value} {h : xH} {cs : Nat × Nat} {K : Option Value → xH → Prop} {a : Nat} {e e' : xC} (h2 : 2 ≤ a) (hal : x_alk e e') (kk : x_Rn M pc lo st (h.set a e') cs K) : x_Rn M pc lo st (h.set a e) cs K := by
  intro p l e0 s m args below meth c G Z H locs ls C hR hS hL
  refine kk p l e0 s m args below meth c G Z H locs ls C ?_ hS hL
  obtain ⟨r1, r2, r3, r4, r5, r6⟩ := hR
  obtain ⟨b, rfl⟩ : ∃ b, a = b + 2 := ⟨a - 2, by omega⟩
  have hlen : (h.set (b + 2) e).length = (h.set (b + 2) e').length := by rw [List.length_set, List.length_set]
  have hget : ∀ j, j ≠ b + 2 → (h.set (b + 2) e')[j]? = (h.set (b + 2) e)[j]? := fun j hj => by rw [List.getElem?_set, List.getElem?_set, if_neg (Ne.symm hj), if_neg (Ne.symm hj)]
  refine ⟨hlen ▸ r1, hlen ▸ r2, fun k q hk => ?_, r4, r5.kept (hget 0 (by omega)) (hget 1 (by omega)) (fun _ _ _ => rfl), r6⟩
  obtain ⟨x, hx, rfl⟩ := x_ws_of hk
  by_cases hkb : k = b
  · subst hkb
    rw [List.getElem?_set, if_pos rfl] at hx
    by_cases hl : k + 2 < h.length
    · rw [if_pos hl] at hx
      cases hx
      exact hal G _ H (r3 k _ (x_ws_get (by rw [List.getElem?_set, if_pos rfl, if_pos hl])))
    · rw [if_neg hl] at hx; cases hx
  · rw [hget (k + 2) (by omega)] at hx
    exact r3 k _ (x_ws_get hx)
theorem x_bt {b : Bool} (h : b = true) : nI 1 = x_b b := by rw [h]; rfl
theorem x_bf {b : Bool} (h : b = false) : nI 0 = x_b b := by rw [h]; rfl
/-- rooms, heirs .. by number, of any int -/
def x_has (r : Int32) (n : Nat) : Bool := decide (¬ r < 0 ∧ ¬ nI n ≤ r)
theorem x_has_t {r : Int32} {n : Nat} (hn : n < 2 ^ 31) (h : x_has r n = true) : ∃ k, k < n ∧ r = nI k := by
  have h := of_decide_eq_true h
  rcases pk_ix r hn with q | q | q
  · exact absurd q h.1
  · exact absurd q h.2
  · exact q
theorem x_has_nI {k n : Nat} (hk : k < n) (hn : n < 2 ^ 31) : x_has (nI k) n = true := decide_eq_true ⟨nI_pos (by omega), nI_ge hk hn⟩
/-- sets of small numbers -/
def s_set : Nat → (Nat → Bool) → Int32
  | 0, _ => nI 0
  | n + 1, f => if f n then s_set n f ||| (nI 1 <<< (nI n &&& 31)) else s_set n f
theorem s_set_t {n : Nat} {f : Nat → Bool} (h : f n = true) : s_set n f ||| (nI 1 <<< (nI n &&& 31)) = s_set (n + 1) f := by rw [s_set, if_pos h]
theorem s_set_f {n : Nat} {f : Nat → Bool} (h : f n = false) : s_set n f = s_set (n + 1) f := by rw [s_set, if_neg (by rw [h]; decide)]
theorem s_set_cong {f g : Nat → Bool} : ∀ {n : Nat}, (∀ k, k < n → f k = g k) → s_set n f = s_set n g
  | 0, _ => rfl
  | n + 1, h => by rw [s_set, s_set, s_set_cong (fun k hk => h k (by omega)), h n (by omega)]
abbrev xF : Type := Nat → Nat → Nat
abbrev x_ia (n : Nat) (f : Nat → Int32) : xC := .inl (0, n, .inl f)
abbrev x_na (n : Nat) (f : Nat → Nat) : xC := .inl (0, n, .inl (fun j => nI (f j)))
/-- rows of a grid at a: n rows -/
abbrev x_qa (kd n a : Nat) : xC := .inl (kd, n, .inr (.inr (.inr (.inr (fun i => if i < n then some (a + 1 + i) else none)))))
/-- a House at b: hours, rooms, doors, heirs; 0 burns, 1 oneSide, 2 otherSide, 3 thick, 4 kind, 5 voice, 6 start, 10 + a walls, 20 + a ways -/
def x_House (h : xH) (b N R D P : Nat) (F : xF) : Prop := 2 ≤ b ∧ h[b]? = some (.inr (1, [.int (nI N), .int (nI R), .int (nI D), .int (nI P), .ref (b + 1), .ref (b + 2), .ref (b + 3), .ref (b + 4), .ref (b + 5), .ref (b + 6), .ref (b + 7), .ref (b + 8), .ref (b + 15)])) ∧
  h[b + 1]? = some (x_na 6 (F 0)) ∧ h[b + 2]? = some (x_na 8 (F 1)) ∧ h[b + 3]? = some (x_na 8 (F 2)) ∧ h[b + 4]? = some (x_na 8 (F 3)) ∧ h[b + 5]? = some (x_na 6 (F 4)) ∧ h[b + 6]? = some (x_na 6 (F 5)) ∧ h[b + 7]? = some (x_na 6 (F 6)) ∧
  h[b + 8]? = some (x_qa 4 6 (b + 8)) ∧ (∀ a, a < 6 → h[b + 8 + 1 + a]? = some (x_na 6 (F (10 + a)))) ∧ h[b + 15]? = some (x_qa 4 6 (b + 15)) ∧ ∀ a, a < 6 → h[b + 15 + 1 + a]? = some (x_na 6 (F (20 + a)))
def x_HB (N R D P : Nat) (F : xF) : Prop := (N ≤ 20 ∧ R ≤ 6 ∧ D ≤ 8 ∧ P ≤ 6) ∧ (∀ d, d < D → F 1 d < R ∧ F 2 d < R ∧ F 3 d ≤ 9) ∧ (∀ p, p < P → F 4 p ≤ 4 ∧ 1 ≤ F 5 p ∧ F 5 p ≤ 20 ∧ F 6 p < R) ∧ (∀ a b, a < R → b < R → F (10 + a) b ≤ 99 ∧ F (20 + a) b ≤ 99)
theorem x_House.kept {h h' : xH} {b N R D P : Nat} {F : xF} (H : x_House h b N R D P F) (hq : ∀ q, b ≤ q → q < b + 22 → h'[q]? = h[q]?) : x_House h' b N R D P F := by
  obtain ⟨h2, g0, g1, g2, g3, g4, g5, g6, g7, g8, g9, g10, g11⟩ := H
  exact ⟨h2, (hq _ (by omega) (by omega)).trans g0, (hq _ (by omega) (by omega)).trans g1, (hq _ (by omega) (by omega)).trans g2, (hq _ (by omega) (by omega)).trans g3, (hq _ (by omega) (by omega)).trans g4, (hq _ (by omega) (by omega)).trans g5, (hq _ (by omega) (by omega)).trans g6, (hq _ (by omega) (by omega)).trans g7, (hq _ (by omega) (by omega)).trans g8, fun a ha => (hq _ (by omega) (by omega)).trans (g9 a ha), (hq _ (by omega) (by omega)).trans g10, fun a ha => (hq _ (by omega) (by omega)).trans (g11 a ha)⟩
def s_behind (F : xF) (d r : Nat) : Int32 := if F 1 d = r then nI (F 2 d) else if F 2 d = r then nI (F 1 d) else -1
def s_name (F : xF) (p k : Nat) : Nat := if F 4 p = 2 ∧ ¬ k = 3 then 0 else p
def s_heard (F : xF) (p from_ : Nat) : Nat → Bool := fun r => decide (F (10 + from_) r < F 5 p)
