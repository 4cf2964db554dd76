/-! ALL THAT STANDS, in numbers; the class that holds it -/
def i_n (x : Int32) : Nat := x.toInt.toNat
theorem i_n_nI {k : Nat} (hk : k < 2 ^ 31) : i_n (nI k) = k := by unfold i_n; rw [nI_toInt hk]; rfl
abbrev xX : Type := Nat × (Nat → Nat)
abbrev xTr : Type := Nat × (Nat → xQ)
abbrev xIm : Type := (Nat → Bool) × (Nat → xQ) × (Nat → Nat)
abbrev xSn : Type := Nat × (Nat → Nat) × (Nat → Bool)
abbrev xBk : Type := Nat × (Nat → Nat) × (Nat → Int32)
/-- house, night, trail, images, seed, text, fault, seen, book -/
abbrev xZ : Type := xW × xQ × xTr × xIm × Nat × xX × Int32 × xSn × xBk
abbrev z_N (Z : xZ) : Nat := Z.1.1
abbrev z_R (Z : xZ) : Nat := Z.1.2.1
abbrev z_D (Z : xZ) : Nat := Z.1.2.2.1
abbrev z_P (Z : xZ) : Nat := Z.1.2.2.2.1
abbrev z_F (Z : xZ) : xF := Z.1.2.2.2.2
abbrev z_Q (Z : xZ) : xQ := Z.2.1
abbrev z_T (Z : xZ) : xTr := Z.2.2.1
abbrev z_I (Z : xZ) : xIm := Z.2.2.2.1
abbrev z_s (Z : xZ) : Nat := Z.2.2.2.2.1
abbrev z_X (Z : xZ) : xX := Z.2.2.2.2.2.1
abbrev z_f (Z : xZ) : Int32 := Z.2.2.2.2.2.2.1
abbrev z_S (Z : xZ) : xSn := Z.2.2.2.2.2.2.2.1
abbrev z_B (Z : xZ) : xBk := Z.2.2.2.2.2.2.2.2
abbrev z_setQ (Z : xZ) (Q : xQ) : xZ := (Z.1, Q, Z.2.2)
abbrev z_setT (Z : xZ) (T : xTr) : xZ := (Z.1, Z.2.1, T, Z.2.2.2)
abbrev z_setI (Z : xZ) (I : xIm) : xZ := (Z.1, Z.2.1, Z.2.2.1, I, Z.2.2.2.2)
abbrev z_sets (Z : xZ) (s : Nat) : xZ := (Z.1, Z.2.1, Z.2.2.1, Z.2.2.2.1, s, Z.2.2.2.2.2)
abbrev z_setX (Z : xZ) (X : xX) : xZ := (Z.1, Z.2.1, Z.2.2.1, Z.2.2.2.1, Z.2.2.2.2.1, X, Z.2.2.2.2.2.2)
abbrev z_setf (Z : xZ) (f : Int32) : xZ := (Z.1, Z.2.1, Z.2.2.1, Z.2.2.2.1, Z.2.2.2.2.1, Z.2.2.2.2.2.1, f, Z.2.2.2.2.2.2.2)
abbrev z_setS (Z : xZ) (S : xSn) : xZ := (Z.1, Z.2.1, Z.2.2.1, Z.2.2.2.1, Z.2.2.2.2.1, Z.2.2.2.2.2.1, Z.2.2.2.2.2.2.1, S, Z.2.2.2.2.2.2.2.2)
abbrev z_setB (Z : xZ) (B : xBk) : xZ := (Z.1, Z.2.1, Z.2.2.1, Z.2.2.2.1, Z.2.2.2.2.1, Z.2.2.2.2.2.1, Z.2.2.2.2.2.2.1, Z.2.2.2.2.2.2.2.1, B)
/-- bounds: k calls are behind -/
def x_QK (k N R P : Nat) (Q : xQ) : Prop := x_QB N R P Q ∧ q_nt Q ≤ k ∧ q_sy Q ≤ k
def x_WT (W : xW) : Prop := x_WB W ∧ ∀ x y, x < W.2.1 → y < W.2.1 → W.2.2.2.2 (10 + x) y = s_wall W.2.1 W.2.2.1 W.2.2.2.2 x y ∧ W.2.2.2.2 (20 + x) y = s_way W.2.1 W.2.2.1 W.2.2.2.2 x y
def x_ZB (k : Nat) (Z : xZ) : Prop := x_WT Z.1 ∧ x_QK k (z_N Z) (z_R Z) (z_P Z) (z_Q Z) ∧ ((z_T Z).1 ≤ 30 ∧ ∀ j, j < (z_T Z).1 → x_QK k (z_N Z) (z_R Z) (z_P Z) ((z_T Z).2 j)) ∧ (∀ i, i < 2 → (z_I Z).1 i = true → x_QK k (z_N Z) (z_R Z) (z_P Z) ((z_I Z).2.1 i) ∧ (z_I Z).2.2 i < 2 ^ 31) ∧ z_s Z < 2 ^ 31 ∧ ((z_X Z).1 ≤ 240 ∧ ∀ i, i < (z_X Z).1 → (z_X Z).2 i < 256) ∧ ((z_S Z).1 ≤ 6 ∧ ∀ i, i < (z_S Z).1 → (z_S Z).2.1 i < z_R Z) ∧ ((z_B Z).1 ≤ 20 ∧ ∀ i, i < (z_B Z).1 → (z_B Z).2.1 i < z_R Z)
theorem x_QK.mono {k k' N R P : Nat} {Q : xQ} (h : x_QK k N R P Q) (hk : k ≤ k') : x_QK k' N R P Q := ⟨h.1, by have := h.2.1; omega, by have := h.2.2; omega⟩
theorem x_ZB.mono {k k' : Nat} {Z : xZ} (h : x_ZB k Z) (hk : k ≤ k') : x_ZB k' Z := ⟨h.1, h.2.1.mono hk, ⟨h.2.2.1.1, fun j hj => (h.2.2.1.2 j hj).mono hk⟩, fun i hi ht => ⟨(h.2.2.2.1 i hi ht).1.mono hk, (h.2.2.2.1 i hi ht).2⟩, h.2.2.2.2⟩
theorem x_WT.hb {W : xW} (h : x_WT W) : x_HB W.1 W.2.1 W.2.2.1 W.2.2.2.1 W.2.2.2.2 := by
  obtain ⟨⟨h1, h2, h3, h4, h5⟩, h6⟩ := h
  refine ⟨h1, fun d hd => ⟨(h2 d hd).1, (h2 d hd).2.1, (h2 d hd).2.2.2⟩, h3, fun a b ha hb => ?_⟩
  have e := h6 a b ha hb
  rw [e.1, e.2]
  exact ⟨((s_dr_dist (fun d hd => (h2 d hd).2.2.1)).fl _ (Nat.le_refl _) |>.1 a b ha hb).2, ((s_dr_dist (fun d hd => (h2 d hd).2.2.1)).fl _ (Nat.le_refl _) |>.1 a b ha hb).2⟩
def t_rem (Q : xQ) (T : xTr) : xTr := (min (T.1 + 1) 30, fun j => if j = 0 then Q else T.2 (j - 1))
def x_Ring (h : xH) (nx R P : Nat) (T : xTr) : Prop := x_Trail h 58 T.1 nx ∧ (∀ i, i < 30 → ∃ Q0, x_Night h (60 + 9 * i) 0 0 Q0) ∧ ∀ j, j < T.1 → x_Night h (60 + 9 * ((nx + 29 - j) % 30)) R P (T.2 j)
def x_Imgs (h : xH) (R P : Nat) (I : xIm) : Prop := h[330]? = some (.inl (3, 2, .inr (.inr (.inr (.inr (fun i => if i < 2 then some (354 + 9 * i) else none)))))) ∧ (∃ f, h[331]? = some (x_ia 2 f) ∧ ∀ i, i < 2 → I.1 i = true → f i = nI (I.2.2 i)) ∧ (∃ f, h[332]? = some (.inl (2, 2, .inl f)) ∧ ∀ i, i < 2 → f i = x_b (I.1 i)) ∧ (∀ i, i < 2 → ∃ Q0, x_Night h (354 + 9 * i) 0 0 Q0) ∧ ∀ i, i < 2 → I.1 i = true → x_Night h (354 + 9 * i) R P (I.2.1 i)
theorem x_Ring.kept {h h' : xH} {nx R P : Nat} {T : xTr} (H : x_Ring h nx R P T) (hq : ∀ q, 58 ≤ q → q < 330 → h'[q]? = h[q]?) : x_Ring h' nx R P T :=
  ⟨H.1.kept (hq _ (by omega) (by omega)) (hq _ (by omega) (by omega)), fun i hi => (H.2.1 i hi).imp (fun Q0 z => z.kept (fun q q1 q2 => hq q (by omega) (by omega))), fun j hj => (H.2.2 j hj).kept (fun q q1 q2 => hq q (by omega) (by omega))⟩
theorem x_Imgs.kept {h h' : xH} {R P : Nat} {I : xIm} (H : x_Imgs h R P I) (hq : ∀ q, 330 ≤ q → q < 333 ∨ 354 ≤ q ∧ q < 372 → h'[q]? = h[q]?) : x_Imgs h' R P I := by
  obtain ⟨a1, ⟨f, a2, a3⟩, ⟨g, a4, a5⟩, a6, a7⟩ := H
  exact ⟨(hq _ (by omega) (by omega)).trans a1, ⟨f, (hq _ (by omega) (by omega)).trans a2, a3⟩, ⟨g, (hq _ (by omega) (by omega)).trans a4, a5⟩, fun i hi => (a6 i hi).imp (fun Q0 z => z.kept (fun q q1 q2 => hq q (by omega) (by omega))), fun i hi ht => (a7 i hi ht).kept (fun q q1 q2 => hq q (by omega) (by omega))⟩
abbrev x_cob (hb db : Nat) (s : Nat) (f : Int32) : xC := .inr (7, [.ref 3, .ref hb, .ref db, .ref 49, .ref 58, .ref 330, .ref 331, .ref 332, .ref 333, .ref 348, .ref 351, .int (nI s), .int f])
def x_CL (h : xH) (Z : xZ) (hb db : Nat) (E : xE) (Wd : xW) (nx : Nat) (fw lt : Int32) (A B : xA) : Prop :=
  h[1]? = some (x_la 6 x_lack) ∧ ((hb = 5 ∧ db = 27) ∨ (hb = 27 ∧ db = 5)) ∧ h[2]? = some (x_cob hb db (z_s Z) (z_f Z)) ∧ x_Text h 3 (z_X Z).1 (z_X Z).2 E ∧ x_House h hb (z_N Z) (z_R Z) (z_D Z) (z_P Z) (z_F Z) ∧ x_HouseW h db Wd ∧ x_Night h 49 (z_R Z) (z_P Z) (z_Q Z) ∧ x_Ring h nx (z_R Z) (z_P Z) (z_T Z) ∧ x_Imgs h (z_R Z) (z_P Z) (z_I Z) ∧ x_Plan h 333 fw lt A B ∧ x_Seen h 348 (z_S Z).1 (z_S Z).2.1 (z_S Z).2.2 ∧ x_Book h 351 (z_B Z).1 (z_B Z).2.1 (z_B Z).2.2
def x_Class (h : xH) (Z : xZ) : Prop := ∃ hb db E Wd nx fw lt A B, x_CL h Z hb db E Wd nx fw lt A B
/-- a call of the class leaves what isn't its own -/
def x_fC (h h' : xH) : Prop := ∀ q, q < 2 ∨ 372 ≤ q → h'[q]? = h[q]?
theorem x_fC.rf (h : xH) : x_fC h h := fun _ _ => rfl
theorem x_fC.trans {h g k : xH} (a : x_fC h g) (b : x_fC g k) : x_fC h k := fun q hq => (b q hq).trans (a q hq)
theorem x_fC.fr {h g k : xH} {c n : Nat} (a : x_fC h g) (b : x_fr g k c n) (h1 : 2 ≤ c) (h2 : c + n ≤ 372) : x_fC h k := fun q hq => (b q (by omega)).trans (a q hq)
theorem x_fC.set {h g : xH} {c : Nat} (a : x_fC h g) (e : xC) (h1 : 2 ≤ c) (h2 : c < 372) : x_fC h (g.set c e) := fun q hq => by rw [List.getElem?_set_ne (by omega)]; exact a q hq
theorem x_CL.night {h h' : xH} {Z : xZ} {hb db : Nat} {E : xE} {Wd : xW} {nx : Nat} {fw lt : Int32} {A B : xA} (C : x_CL h Z hb db E Wd nx fw lt A B) {Q : xQ} (HN : x_Night h' 49 (z_R Z) (z_P Z) Q) (FR : x_fr h h' 49 9) : x_CL h' (z_setQ Z Q) hb db E Wd nx fw lt A B := by
  obtain ⟨c1, cx, c0, cT, cH, cD, cN, cR, cI, cP, cS, cB⟩ := id C
  exact ⟨(FR 1 (by omega)).trans c1, cx, (FR 2 (by omega)).trans c0, cT.kept (FR 3 (by omega)) (FR 4 (by omega)), cH.kept (fun q q1 q2 => FR q (by omega)), x_House.kept cD (fun q q1 q2 => FR q (by omega)), HN, cR.kept (fun q q1 q2 => FR q (by omega)), cI.kept (fun q q1 q2 => FR q (by omega)), cP.kept (fun q q1 q2 => FR q (by omega)), cS.kept (fun q q1 q2 => FR q (by omega)), cB.kept (fun q q1 q2 => FR q (by omega))⟩
theorem x_CL.ring {h h' : xH} {Z : xZ} {hb db : Nat} {E : xE} {Wd : xW} {nx : Nat} {fw lt : Int32} {A B : xA} (C : x_CL h Z hb db E Wd nx fw lt A B) {T : xTr} {nx2 : Nat} (HR : x_Ring h' nx2 (z_R Z) (z_P Z) T) (FR : ∀ q, q < 58 ∨ 330 ≤ q → h'[q]? = h[q]?) : x_CL h' (z_setT Z T) hb db E Wd nx2 fw lt A B := by
  obtain ⟨c1, cx, c0, cT, cH, cD, cN, cR, cI, cP, cS, cB⟩ := id C
  exact ⟨(FR 1 (by omega)).trans c1, cx, (FR 2 (by omega)).trans c0, cT.kept (FR 3 (by omega)) (FR 4 (by omega)), cH.kept (fun q q1 q2 => FR q (by omega)), x_House.kept cD (fun q q1 q2 => FR q (by omega)), cN.kept (fun q q1 q2 => FR q (by omega)), HR, cI.kept (fun q q1 q2 => FR q (by omega)), cP.kept (fun q q1 q2 => FR q (by omega)), cS.kept (fun q q1 q2 => FR q (by omega)), cB.kept (fun q q1 q2 => FR q (by omega))⟩
theorem x_CL.both {h h' : xH} {Z : xZ} {hb db : Nat} {E : xE} {Wd : xW} {nx : Nat} {fw lt : Int32} {A B : xA} (C : x_CL h Z hb db E Wd nx fw lt A B) {T : xTr} {nx2 : Nat} {Q : xQ} (HR : x_Ring h' nx2 (z_R Z) (z_P Z) T) (HN : x_Night h' 49 (z_R Z) (z_P Z) Q) (FR : ∀ q, q < 49 ∨ 330 ≤ q → h'[q]? = h[q]?) : x_CL h' (z_setQ (z_setT Z T) Q) hb db E Wd nx2 fw lt A B := by
  obtain ⟨c1, cx, c0, cT, cH, cD, cN, cR, cI, cP, cS, cB⟩ := id C
  exact ⟨(FR 1 (by omega)).trans c1, cx, (FR 2 (by omega)).trans c0, cT.kept (FR 3 (by omega)) (FR 4 (by omega)), cH.kept (fun q q1 q2 => FR q (by omega)), x_House.kept cD (fun q q1 q2 => FR q (by omega)), HN, HR, cI.kept (fun q q1 q2 => FR q (by omega)), cP.kept (fun q q1 q2 => FR q (by omega)), cS.kept (fun q q1 q2 => FR q (by omega)), cB.kept (fun q q1 q2 => FR q (by omega))⟩
theorem x_CL.imgs {h h' : xH} {Z : xZ} {hb db : Nat} {E : xE} {Wd : xW} {nx : Nat} {fw lt : Int32} {A B : xA} (C : x_CL h Z hb db E Wd nx fw lt A B) {I : xIm} (HI : x_Imgs h' (z_R Z) (z_P Z) I) (FR : ∀ q, q < 330 ∨ (333 ≤ q ∧ q < 354) ∨ 372 ≤ q → h'[q]? = h[q]?) : x_CL h' (z_setI Z I) hb db E Wd nx fw lt A B := by
  obtain ⟨c1, cx, c0, cT, cH, cD, cN, cR, cI, cP, cS, cB⟩ := id C
  exact ⟨(FR 1 (by omega)).trans c1, cx, (FR 2 (by omega)).trans c0, cT.kept (FR 3 (by omega)) (FR 4 (by omega)), cH.kept (fun q q1 q2 => FR q (by omega)), x_House.kept cD (fun q q1 q2 => FR q (by omega)), cN.kept (fun q q1 q2 => FR q (by omega)), cR.kept (fun q q1 q2 => FR q (by omega)), HI, cP.kept (fun q q1 q2 => FR q (by omega)), cS.kept (fun q q1 q2 => FR q (by omega)), cB.kept (fun q q1 q2 => FR q (by omega))⟩
theorem x_CL.plan {h h' : xH} {Z : xZ} {hb db : Nat} {E : xE} {Wd : xW} {nx : Nat} {fw lt : Int32} {A B : xA} (C : x_CL h Z hb db E Wd nx fw lt A B) {fw2 lt2 : Int32} {A2 B2 : xA} (HP : x_Plan h' 333 fw2 lt2 A2 B2) (FR : x_fr h h' 333 15) : x_CL h' Z hb db E Wd nx fw2 lt2 A2 B2 := by
  obtain ⟨c1, cx, c0, cT, cH, cD, cN, cR, cI, cP, cS, cB⟩ := id C
  exact ⟨(FR 1 (by omega)).trans c1, cx, (FR 2 (by omega)).trans c0, cT.kept (FR 3 (by omega)) (FR 4 (by omega)), cH.kept (fun q q1 q2 => FR q (by omega)), x_House.kept cD (fun q q1 q2 => FR q (by omega)), cN.kept (fun q q1 q2 => FR q (by omega)), cR.kept (fun q q1 q2 => FR q (by omega)), cI.kept (fun q q1 q2 => FR q (by omega)), HP, cS.kept (fun q q1 q2 => FR q (by omega)), cB.kept (fun q q1 q2 => FR q (by omega))⟩
theorem x_CL.seen {h h' : xH} {Z : xZ} {hb db : Nat} {E : xE} {Wd : xW} {nx : Nat} {fw lt : Int32} {A B : xA} (C : x_CL h Z hb db E Wd nx fw lt A B) {S : xSn} (HS : x_Seen h' 348 S.1 S.2.1 S.2.2) (FR : x_fr h h' 348 3) : x_CL h' (z_setS Z S) hb db E Wd nx fw lt A B := by
  obtain ⟨c1, cx, c0, cT, cH, cD, cN, cR, cI, cP, cS, cB⟩ := id C
  exact ⟨(FR 1 (by omega)).trans c1, cx, (FR 2 (by omega)).trans c0, cT.kept (FR 3 (by omega)) (FR 4 (by omega)), cH.kept (fun q q1 q2 => FR q (by omega)), x_House.kept cD (fun q q1 q2 => FR q (by omega)), cN.kept (fun q q1 q2 => FR q (by omega)), cR.kept (fun q q1 q2 => FR q (by omega)), cI.kept (fun q q1 q2 => FR q (by omega)), cP.kept (fun q q1 q2 => FR q (by omega)), HS, cB.kept (fun q q1 q2 => FR q (by omega))⟩
theorem x_CL.book {h h' : xH} {Z : xZ} {hb db : Nat} {E : xE} {Wd : xW} {nx : Nat} {fw lt : Int32} {A B : xA} (C : x_CL h Z hb db E Wd nx fw lt A B) {T : xBk} (HB : x_Book h' 351 T.1 T.2.1 T.2.2) (FR : x_fr h h' 351 3) : x_CL h' (z_setB Z T) hb db E Wd nx fw lt A B := by
  obtain ⟨c1, cx, c0, cT, cH, cD, cN, cR, cI, cP, cS, cB⟩ := id C
  exact ⟨(FR 1 (by omega)).trans c1, cx, (FR 2 (by omega)).trans c0, cT.kept (FR 3 (by omega)) (FR 4 (by omega)), cH.kept (fun q q1 q2 => FR q (by omega)), x_House.kept cD (fun q q1 q2 => FR q (by omega)), cN.kept (fun q q1 q2 => FR q (by omega)), cR.kept (fun q q1 q2 => FR q (by omega)), cI.kept (fun q q1 q2 => FR q (by omega)), cP.kept (fun q q1 q2 => FR q (by omega)), cS.kept (fun q q1 q2 => FR q (by omega)), HB⟩
theorem x_CL.text {h h' : xH} {Z : xZ} {hb db : Nat} {E : xE} {Wd : xW} {nx : Nat} {fw lt : Int32} {A B : xA} (C : x_CL h Z hb db E Wd nx fw lt A B) {X : xX} {E2 : xE} (HT : x_Text h' 3 X.1 X.2 E2) (FR : x_fr h h' 3 2) : x_CL h' (z_setX Z X) hb db E2 Wd nx fw lt A B := by
  obtain ⟨c1, cx, c0, cT, cH, cD, cN, cR, cI, cP, cS, cB⟩ := id C
  exact ⟨(FR 1 (by omega)).trans c1, cx, (FR 2 (by omega)).trans c0, HT, cH.kept (fun q q1 q2 => FR q (by omega)), x_House.kept cD (fun q q1 q2 => FR q (by omega)), cN.kept (fun q q1 q2 => FR q (by omega)), cR.kept (fun q q1 q2 => FR q (by omega)), cI.kept (fun q q1 q2 => FR q (by omega)), cP.kept (fun q q1 q2 => FR q (by omega)), cS.kept (fun q q1 q2 => FR q (by omega)), cB.kept (fun q q1 q2 => FR q (by omega))⟩
theorem x_CL.obj {h : xH} {Z : xZ} {hb db : Nat} {E : xE} {Wd : xW} {nx : Nat} {fw lt : Int32} {A B : xA} (C : x_CL h Z hb db E Wd nx fw lt A B) (s : Nat) (f : Int32) : x_CL (h.set 2 (x_cob hb db s f)) (z_setf (z_sets Z s) f) hb db E Wd nx fw lt A B := by
  obtain ⟨c1, cx, c0, cT, cH, cD, cN, cR, cI, cP, cS, cB⟩ := id C
  have FR : ∀ q, ¬ q = 2 → (h.set 2 (x_cob hb db s f))[q]? = h[q]? := fun q hq => List.getElem?_set_ne (by omega)
  exact ⟨(FR 1 (by omega)).trans c1, cx, List.getElem?_set_self (List.getElem?_eq_some_iff.mp c0).1, cT.kept (FR 3 (by omega)) (FR 4 (by omega)), cH.kept (fun q q1 q2 => FR q (by omega)), x_House.kept cD (fun q q1 q2 => FR q (by omega)), cN.kept (fun q q1 q2 => FR q (by omega)), cR.kept (fun q q1 q2 => FR q (by omega)), cI.kept (fun q q1 q2 => FR q (by omega)), cP.kept (fun q q1 q2 => FR q (by omega)), cS.kept (fun q q1 q2 => FR q (by omega)), cB.kept (fun q q1 q2 => FR q (by omega))⟩
theorem x_CL.hd {h : xH} {Z : xZ} {hb db : Nat} {E : xE} {Wd : xW} {nx : Nat} {fw lt : Int32} {A B : xA} (C : x_CL h Z hb db E Wd nx fw lt A B) : 5 ≤ hb ∧ hb + 22 ≤ 49 ∧ 5 ≤ db ∧ db + 22 ≤ 49 := by
  have := C.2.1; omega
/-- the ring: one more -/
theorem x_Ring.rem {h h' : xH} {nx R P : Nat} {T : xTr} {Q : xQ} (H : x_Ring h nx R P T) (HT : x_Trail h' 58 (min (T.1 + 1) 30) ((nx + 1) % 30)) (HN : x_Night h' (58 + 2 + 9 * nx) R P Q) (FR : x_fr2 h h' 58 (58 + 2 + 9 * nx)) : x_Ring h' ((nx + 1) % 30) R P (t_rem Q T) := by
  have hnx : nx < 30 := H.1.2.2.1
  have hc : T.1 ≤ 30 := H.1.2.1
  refine ⟨HT, fun i hi => ?_, fun j hj => ?_⟩
  · by_cases e : i = nx
    · subst e; exact ⟨Q, HN.less⟩
    · exact (H.2.1 i hi).imp (fun Q0 z => z.kept (fun q q1 q2 => FR q (by omega) (by omega)))
  · show x_Night h' _ R P (if j = 0 then Q else T.2 (j - 1))
    have hj : j < min (T.1 + 1) 30 := hj
    by_cases e : j = 0
    · subst e
      rw [if_pos rfl, show ((nx + 1) % 30 + 29 - 0) % 30 = nx by omega]
      exact HN
    · rw [if_neg e, show ((nx + 1) % 30 + 29 - j) % 30 = (nx + 29 - (j - 1)) % 30 by omega]
      exact (H.2.2 (j - 1) (by omega)).kept (fun q q1 q2 => FR q (by omega) (by omega))
theorem x_Ring.back {h h' : xH} {nx n R P : Nat} {T : xTr} (H : x_Ring h nx R P T) (hn : n ≤ T.1) (HT : x_Trail h' 58 (T.1 - n) ((nx + 30 - n) % 30)) (FR : ∀ q, 59 ≤ q → q < 330 → h'[q]? = h[q]?) : x_Ring h' ((nx + 30 - n) % 30) R P (T.1 - n, fun j => T.2 (j + n)) := by
  have hnx : nx < 30 := H.1.2.2.1
  have hc : T.1 ≤ 30 := H.1.2.1
  refine ⟨HT, fun i hi => (H.2.1 i hi).imp (fun Q0 z => z.kept (fun q q1 q2 => FR q (by omega) (by omega))), fun j hj => ?_⟩
  have hj : j < T.1 - n := hj
  show x_Night h' (60 + 9 * (((nx + 30 - n) % 30 + 29 - j) % 30)) R P (T.2 (j + n))
  rw [show ((nx + 30 - n) % 30 + 29 - j) % 30 = (nx + 29 - (j + n)) % 30 by omega]
  exact (H.2.2 (j + n) (by omega)).kept (fun q q1 q2 => FR q (by omega) (by omega))
theorem x_Ring.clear {h h' : xH} {nx R P R2 P2 : Nat} {T : xTr} (t : Nat → xQ) (H : x_Ring h nx R P T) (HT : x_Trail h' 58 0 0) (FR : ∀ q, ¬ q = 58 → h'[q]? = h[q]?) : x_Ring h' 0 R2 P2 (0, t) :=
  ⟨HT, fun i hi => (H.2.1 i hi).imp (fun Q0 z => z.kept (fun q q1 q2 => FR q (by omega))), fun j hj => absurd hj (Nat.not_lt_zero j)⟩
