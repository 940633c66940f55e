/-! the class: where it keeps what the row says -/
theorem f_F {i : Nat} (h : i < 10) : ([some (.ref 13), some (.ref 15), some (.ref 17), some (.ref 19), some (.ref 21), some (.ref 23), some (.ref 25), some (.ref 27), some (.ref 29), some (.ref 31)] : List (Option Value))[i]? = some (some (.ref (13 + 2 * i))) := by
  rcases (show i = 0 ∨ i = 1 ∨ i = 2 ∨ i = 3 ∨ i = 4 ∨ i = 5 ∨ i = 6 ∨ i = 7 ∨ i = 8 ∨ i = 9 by omega) with rfl | rfl | rfl | rfl | rfl | rfl | rfl | rfl | rfl | rfl <;> rfl
theorem O_F (S : wp_S) {i : Nat} (h : i < 10) : wp_O S (13 + 2 * i) 0 [none, some (.ref (14 + 2 * i)), none, none, none, none, none, none] := by
  rcases (show i = 0 ∨ i = 1 ∨ i = 2 ∨ i = 3 ∨ i = 4 ∨ i = 5 ∨ i = 6 ∨ i = 7 ∨ i = 8 ∨ i = 9 by omega) with rfl | rfl | rfl | rfl | rfl | rfl | rfl | rfl | rfl | rfl
  · exact O_13 S
  · exact O_15 S
  · exact O_17 S
  · exact O_19 S
  · exact O_21 S
  · exact O_23 S
  · exact O_25 S
  · exact O_27 S
  · exact O_29 S
  · exact O_31 S
theorem A_G (S : wp_S) {i : Nat} (h : i < 10) : wp_A S (14 + 2 * i) 4 := by
  rcases (show i = 0 ∨ i = 1 ∨ i = 2 ∨ i = 3 ∨ i = 4 ∨ i = 5 ∨ i = 6 ∨ i = 7 ∨ i = 8 ∨ i = 9 by omega) with rfl | rfl | rfl | rfl | rfl | rfl | rfl | rfl | rfl | rfl
  · exact A_14 S
  · exact A_16 S
  · exact A_18 S
  · exact A_20 S
  · exact A_22 S
  · exact A_24 S
  · exact A_26 S
  · exact A_28 S
  · exact A_30 S
  · exact A_32 S
theorem f_H {i : Nat} (h : i < 10) : ([some (.ref 45), some (.ref 47), some (.ref 49), some (.ref 51), some (.ref 53), some (.ref 55), some (.ref 57), some (.ref 59), some (.ref 61), some (.ref 63)] : List (Option Value))[i]? = some (some (.ref (45 + 2 * i))) := by
  rcases (show i = 0 ∨ i = 1 ∨ i = 2 ∨ i = 3 ∨ i = 4 ∨ i = 5 ∨ i = 6 ∨ i = 7 ∨ i = 8 ∨ i = 9 by omega) with rfl | rfl | rfl | rfl | rfl | rfl | rfl | rfl | rfl | rfl <;> rfl
theorem O_H (S : wp_S) {i : Nat} (h : i < 10) : wp_O S (45 + 2 * i) 0 [none, some (.ref (46 + 2 * i)), none, none, none, none, none, none] := by
  rcases (show i = 0 ∨ i = 1 ∨ i = 2 ∨ i = 3 ∨ i = 4 ∨ i = 5 ∨ i = 6 ∨ i = 7 ∨ i = 8 ∨ i = 9 by omega) with rfl | rfl | rfl | rfl | rfl | rfl | rfl | rfl | rfl | rfl
  · exact O_45 S
  · exact O_47 S
  · exact O_49 S
  · exact O_51 S
  · exact O_53 S
  · exact O_55 S
  · exact O_57 S
  · exact O_59 S
  · exact O_61 S
  · exact O_63 S
theorem A_J (S : wp_S) {i : Nat} (h : i < 10) : wp_A S (46 + 2 * i) 4 := by
  rcases (show i = 0 ∨ i = 1 ∨ i = 2 ∨ i = 3 ∨ i = 4 ∨ i = 5 ∨ i = 6 ∨ i = 7 ∨ i = 8 ∨ i = 9 by omega) with rfl | rfl | rfl | rfl | rfl | rfl | rfl | rfl | rfl | rfl
  · exact A_46 S
  · exact A_48 S
  · exact A_50 S
  · exact A_52 S
  · exact A_54 S
  · exact A_56 S
  · exact A_58 S
  · exact A_60 S
  · exact A_62 S
  · exact A_64 S
theorem f_P {i : Nat} (h : i < 4) : ([some (.ref 71), some (.ref 73), some (.ref 75), some (.ref 77)] : List (Option Value))[i]? = some (some (.ref (71 + 2 * i))) := by
  rcases (show i = 0 ∨ i = 1 ∨ i = 2 ∨ i = 3 by omega) with rfl | rfl | rfl | rfl <;> rfl
theorem O_P (S : wp_S) {i : Nat} (h : i < 4) : wp_O S (71 + 2 * i) 0 [none, some (.ref (72 + 2 * i)), none, none, none, none, none, none] := by
  rcases (show i = 0 ∨ i = 1 ∨ i = 2 ∨ i = 3 by omega) with rfl | rfl | rfl | rfl
  · exact O_71 S
  · exact O_73 S
  · exact O_75 S
  · exact O_77 S
theorem A_R (S : wp_S) {i : Nat} (h : i < 4) : wp_A S (72 + 2 * i) 4 := by
  rcases (show i = 0 ∨ i = 1 ∨ i = 2 ∨ i = 3 by omega) with rfl | rfl | rfl | rfl
  · exact A_72 S
  · exact A_74 S
  · exact A_76 S
  · exact A_78 S
theorem f_U {i : Nat} (h : i < 4) : ([some (.ref 82), some (.ref 84), some (.ref 86), some (.ref 88)] : List (Option Value))[i]? = some (some (.ref (82 + 2 * i))) := by
  rcases (show i = 0 ∨ i = 1 ∨ i = 2 ∨ i = 3 by omega) with rfl | rfl | rfl | rfl <;> rfl
theorem O_U (S : wp_S) {i : Nat} (h : i < 4) : wp_O S (82 + 2 * i) 4 [some (.ref (83 + 2 * i)), none, none] := by
  rcases (show i = 0 ∨ i = 1 ∨ i = 2 ∨ i = 3 by omega) with rfl | rfl | rfl | rfl
  · exact O_82 S
  · exact O_84 S
  · exact O_86 S
  · exact O_88 S
theorem A_V (S : wp_S) {i : Nat} (h : i < 4) : wp_A S (83 + 2 * i) 40 := by
  rcases (show i = 0 ∨ i = 1 ∨ i = 2 ∨ i = 3 by omega) with rfl | rfl | rfl | rfl
  · exact A_83 S
  · exact A_85 S
  · exact A_87 S
  · exact A_89 S
/-- the place of the class for a place of the row -/
def cc (j : Nat) : Nat × Nat :=
  if j < 13 then (if 9 ≤ j then (3, j - 9) else if j = 0 then (1, 7) else if j = 8 then (1, 8) else (1, j + 8))
  else if j < 113 then (if (j - 13) % 10 < 6 then (13 + 2 * ((j - 13) / 10), (j - 13) % 10 + 2) else (14 + 2 * ((j - 13) / 10), (j - 13) % 10 - 6))
  else if j < 163 then (10, j - 113) else (11, j - 163)
theorem cc_inj0 : ∀ i : Fin 183, ∀ j : Fin 183, cc i.val = cc j.val → i = j := by decide +kernel
theorem cc_inj {i j : Nat} (hi : i < 183) (hj : j < 183) (h : cc i = cc j) : i = j := congrArg Fin.val (cc_inj0 ⟨i, hi⟩ ⟨j, hj⟩ h)
theorem cc_f {i w : Nat} (hi : i < 10) (hw : w < 6) : cc (13 + 10 * i + w) = (13 + 2 * i, w + 2) := by
  unfold cc
  rw [if_neg (by omega), if_pos (by omega), show (13 + 10 * i + w - 13) % 10 = w by omega, show (13 + 10 * i + w - 13) / 10 = i by omega, if_pos hw]
theorem cc_t {i o : Nat} (hi : i < 10) (ho : o < 4) : cc (13 + 10 * i + (6 + o)) = (14 + 2 * i, o) := by
  unfold cc
  rw [if_neg (by omega), if_pos (by omega), show (13 + 10 * i + (6 + o) - 13) % 10 = 6 + o by omega, show (13 + 10 * i + (6 + o) - 13) / 10 = i by omega, if_neg (by omega), show 6 + o - 6 = o by omega]
theorem cc_9 {o : Nat} (ho : o < 4) : cc (9 + o) = (3, o) := by
  unfold cc
  rw [if_pos (by omega), if_pos (by omega), show 9 + o - 9 = o by omega]
theorem cc_b {k : Nat} (hk : k < 50) : cc (113 + k) = (10, k) := by
  unfold cc
  rw [if_neg (by omega), if_neg (by omega), if_pos (by omega), show 113 + k - 113 = k by omega]
theorem cc_w {k : Nat} : cc (163 + k) = (11, k) := by
  unfold cc
  rw [if_neg (by omega), if_neg (by omega), if_neg (by omega), show 163 + k - 163 = k by omega]
/-- cells of the class that the row doesn't speak of -/
def cW (k : Nat) : Prop := k = 0 ∨ k = 6 ∨ k = 9 ∨ k = 12 ∨ 33 ≤ k
theorem cc_W0 : ∀ j : Fin 183, ((cc j.val).1 = 1 ∧ 7 ≤ (cc j.val).2) ∨ (cc j.val).1 = 3 ∨ (cc j.val).1 = 10 ∨ (cc j.val).1 = 11 ∨ (13 ≤ (cc j.val).1 ∧ (cc j.val).1 < 33 ∧ ((cc j.val).1 % 2 = 0 ∨ 2 ≤ (cc j.val).2)) := by decide +kernel
theorem cc_W {j : Nat} (hj : j < 183) : ((cc j).1 = 1 ∧ 7 ≤ (cc j).2) ∨ (cc j).1 = 3 ∨ (cc j).1 = 10 ∨ (cc j).1 = 11 ∨ (13 ≤ (cc j).1 ∧ (cc j).1 < 33 ∧ ((cc j).1 % 2 = 0 ∨ 2 ≤ (cc j).2)) := cc_W0 ⟨j, hj⟩
/-- a law as the class keeps it -/
def cLw (S : wp_S) (q : sp_R) (u : Nat) : Prop := sp_tw q u ∧ (sp_code q u).length ≤ 50 ∧ S.2 (4 + 3 * u) 3 = nI (sp_code q u).length ∧ ∀ k x, (sp_code q u)[k]? = some x → S.2 (5 + 3 * u) k = x
/-- places that the row's fields use -/
def sp_us1 (q : sp_R) (j : Nat) : Prop := j < 13 ∨ 113 ≤ j ∨ j < 13 + 10 * sp_n q
def CL (S : wp_S) (q : sp_R) : Prop := ((∀ j, j < 183 → j ≠ 6 → j ≠ 7 → sp_us1 q j → S.2 (cc j).1 (cc j).2 = q j) ∧ sp_n q ≤ 10) ∧ (∀ i, i < 10 → S.2 (13 + 2 * i) 0 = nI i) ∧ ∀ u, u < 2 → cLw S q u
theorem sp_n_up (q : sp_R) {j : Nat} (h : j ≠ 0) (x : Int32) : sp_n (sp_up q j x) = sp_n q := by
  unfold sp_n
  rw [sp_up_ne _ _ (fun z => h z.symm)]
theorem sp_code_c {q p : sp_R} {u : Nat} (h6 : p (6 + u) = q (6 + u)) (h : ∀ k, k < 50 → p (183 + 50 * u + k) = q (183 + 50 * u + k)) (hq : sp_tw q u) : sp_code p u = sp_code q u := by
  unfold sp_code
  rw [h6]
  rcases hq with e | ⟨n, hn, e, -, -⟩
  · have hl : q (6 + u) < 0 := by rw [e]; decide
    rw [if_pos hl, if_pos hl]
  · have hl : ¬ q (6 + u) < 0 := by rw [e]; exact nI_pos (by omega)
    rw [if_neg hl, if_neg hl, e, nI_clamp (by omega), sp_ps_c (t := sp_tx p u) (r := sp_tx q u) u (fun k hk => h k (by omega))]
section CL
variable {S : wp_S} {q : sp_R} {Q : Option Value → wp_S → Prop}
theorem CL.fr {S' : wp_S} (C : CL S q) (h : ∀ k j, ¬ cW k → S'.2 k j = S.2 k j) : CL S' q := by
  refine ⟨⟨fun j h1 h2 h3 h4 => ?_, C.1.2⟩, fun i hi => ?_, fun u hu => ⟨(C.2.2 u hu).1, (C.2.2 u hu).2.1, ?_, fun k x hk => ?_⟩⟩
  · rw [h _ _ (by have := cc_W h1; unfold cW; omega)]
    exact C.1.1 j h1 h2 h3 h4
  · rw [h _ _ (by unfold cW; omega)]
    exact C.2.1 i hi
  · rw [h _ _ (by unfold cW; omega)]
    exact (C.2.2 u hu).2.2.1
  · rw [h _ _ (by unfold cW; omega)]
    exact (C.2.2 u hu).2.2.2 k x hk
theorem CL.le (C : CL S q) : sp_n q ≤ 10 := C.1.2
theorem CL.w (C : CL S q) {j : Nat} (h1 : 0 < j ∧ j < 183) (h2 : j ≠ 6) (h3 : j ≠ 7) (x : Int32) : CL (wp_u S (cc j).1 (cc j).2 x) (sp_up q j x) := by
  obtain ⟨h0, h1⟩ := h1
  have en := sp_n_up q (show j ≠ 0 by omega) x
  have hc := cc_W h1
  have e : ∀ u, u < 2 → sp_code (sp_up q j x) u = sp_code q u := fun u hu => sp_code_c (sp_up_ne _ _ (by omega)) (fun k hk => sp_up_ne _ _ (by omega)) (C.2.2 u hu).1
  refine ⟨⟨fun i g1 g2 g3 g4 => ?_, by rw [en]; exact C.1.2⟩, fun i hi => ?_, fun u hu => ?_⟩
  · unfold sp_us1 at g4
    rw [en] at g4
    rw [wp_u2]
    by_cases hij : i = j
    · subst hij
      rw [if_pos ⟨rfl, rfl⟩, sp_up_eq]
    · rw [if_neg (fun z => hij (cc_inj g1 h1 (Prod.ext z.1 z.2))), sp_up_ne _ _ hij]
      exact C.1.1 i g1 g2 g3 g4
  · rw [wp_u2, if_neg (by omega)]
    exact C.2.1 i hi
  · unfold cLw
    rw [e u hu]
    refine ⟨sp_tw_up (by omega) (by omega) (C.2.2 u hu).1, (C.2.2 u hu).2.1, ?_, fun k y hk => ?_⟩
    · rw [wp_u2, if_neg (by omega)]
      exact (C.2.2 u hu).2.2.1
    · rw [wp_u2, if_neg (by omega)]
      exact (C.2.2 u hu).2.2.2 k y hk
theorem CL.sc (C : CL S q) (j : Nat) (h1 : j < 13) (h2 : j ≠ 6) (h3 : j ≠ 7) : S.2 (cc j).1 (cc j).2 = q j := C.1.1 j (by omega) h2 h3 (Or.inl h1)
theorem CL.n (C : CL S q) : S.2 1 7 = q 0 := C.sc 0 (by decide) (by decide) (by decide)
theorem CL.f (C : CL S q) {i w : Nat} (hi : i < sp_n q) (hw : w < 6) : S.2 (13 + 2 * i) (w + 2) = q (13 + 10 * i + w) := by
  have h10 := C.le
  have := C.1.1 (13 + 10 * i + w) (by omega) (by omega) (by omega) (Or.inr (Or.inr (by omega)))
  rw [cc_f (by omega) hw] at this
  exact this
theorem CL.t (C : CL S q) {i o : Nat} (hi : i < sp_n q) (ho : o < 4) : S.2 (14 + 2 * i) o = q (13 + 10 * i + (6 + o)) := by
  have h10 := C.le
  have := C.1.1 (13 + 10 * i + (6 + o)) (by omega) (by omega) (by omega) (Or.inr (Or.inr (by omega)))
  rw [cc_t (by omega) ho] at this
  exact this
theorem CL.q9 (C : CL S q) {o : Nat} (ho : o < 4) : S.2 3 o = q (9 + o) := by
  have := C.1.1 (9 + o) (by omega) (by omega) (by omega) (Or.inl (by omega))
  rw [cc_9 ho] at this
  exact this
theorem CL.b (C : CL S q) {k : Nat} (hk : k < 50) : S.2 10 k = q (113 + k) := by
  have := C.1.1 (113 + k) (by omega) (by omega) (by omega) (Or.inr (Or.inl (by omega)))
  rw [cc_b hk] at this
  exact this
theorem CL.wt (C : CL S q) {k : Nat} (hk : k < 20) : S.2 11 k = q (163 + k) := by
  have := C.1.1 (163 + k) (by omega) (by omega) (by omega) (Or.inr (Or.inl (by omega)))
  rw [cc_w] at this
  exact this
theorem CL.wf (C : CL S q) {i w : Nat} (hi : i < 10) (hw : w < 6) (x : Int32) : CL (wp_u S (13 + 2 * i) (w + 2) x) (sp_up q (13 + 10 * i + w) x) := by
  have := C.w (j := 13 + 10 * i + w) (by omega) (by omega) (by omega) x
  rw [cc_f hi hw] at this
  exact this
theorem CL.wtt (C : CL S q) {i o : Nat} (hi : i < 10) (ho : o < 4) (x : Int32) : CL (wp_u S (14 + 2 * i) o x) (sp_up q (13 + 10 * i + (6 + o)) x) := by
  have := C.w (j := 13 + 10 * i + (6 + o)) (by omega) (by omega) (by omega) x
  rw [cc_t hi ho] at this
  exact this
end CL
