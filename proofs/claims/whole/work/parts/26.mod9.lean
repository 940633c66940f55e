/-! the reference: hearing, telling -/
def sp_up (q : sp_R) (k : Nat) (x : Int32) : sp_R := fun j => if j = k then x else q j
theorem sp_up_eq (q : sp_R) (k : Nat) (x : Int32) : sp_up q k x k = x := if_pos rfl
theorem sp_up_ne (q : sp_R) {k j : Nat} (x : Int32) (h : j ≠ k) : sp_up q k x j = q j := if_neg h
/-- what may be put into a field -/
def sp_al (w : Nat) (x : Int32) : Prop := (w = 0 ∧ ∃ k, k < 7 ∧ x = nI k) ∨ (w = 1 ∧ ∃ k, k < 10 ∧ x = nI k) ∨ (w = 2 ∧ ∃ k, 1 ≤ k ∧ k ≤ 99 ∧ x = nI k) ∨ (w = 3 ∧ ∃ k, k < 10 ∧ x = nI k) ∨ (w = 4 ∧ sp_isO x) ∨ (w = 5 ∧ sp_isO x) ∨ (6 ≤ w ∧ w < 10 ∧ ∃ k, k < 10 ∧ x = nI k)
theorem sp_fw_al {q : sp_R} {i : Nat} (h : sp_fw q i) {w : Nat} (hw : w < 10) : sp_al w (q (13 + 10 * i + w)) := by
  obtain ⟨h0, h1, h2, h3, h4, h5, h6⟩ := h
  unfold sp_al
  rcases (show w = 0 ∨ w = 1 ∨ w = 2 ∨ w = 3 ∨ w = 4 ∨ w = 5 ∨ 6 ≤ w by omega) with rfl | rfl | rfl | rfl | rfl | rfl | h
  · exact Or.inl ⟨rfl, h0⟩
  · exact Or.inr (Or.inl ⟨rfl, h1⟩)
  · exact Or.inr (Or.inr (Or.inl ⟨rfl, h2⟩))
  · exact Or.inr (Or.inr (Or.inr (Or.inl ⟨rfl, h3⟩)))
  · exact Or.inr (Or.inr (Or.inr (Or.inr (Or.inl ⟨rfl, h4⟩))))
  · exact Or.inr (Or.inr (Or.inr (Or.inr (Or.inr (Or.inl ⟨rfl, h5⟩)))))
  · refine Or.inr (Or.inr (Or.inr (Or.inr (Or.inr (Or.inr ⟨h, hw, ?_⟩)))))
    have := h6 (w - 6) (by omega)
    unfold sp_told at this
    rw [show 6 + (w - 6) = w by omega] at this
    exact this
theorem sp_al_fw {q : sp_R} {i : Nat} (h : ∀ w, w < 10 → sp_al w (q (13 + 10 * i + w))) : sp_fw q i := by
  refine ⟨?_, ?_, ?_, ?_, ?_, ?_, ?_⟩
  · rcases h 0 (by decide) with ⟨_, z⟩ | ⟨z, _⟩ | ⟨z, _⟩ | ⟨z, _⟩ | ⟨z, _⟩ | ⟨z, _⟩ | ⟨z, _⟩
    · exact z
    all_goals exact absurd z (by decide)
  · rcases h 1 (by decide) with ⟨z, _⟩ | ⟨_, z⟩ | ⟨z, _⟩ | ⟨z, _⟩ | ⟨z, _⟩ | ⟨z, _⟩ | ⟨z, _⟩
    · exact absurd z (by decide)
    · exact z
    all_goals exact absurd z (by decide)
  · rcases h 2 (by decide) with ⟨z, _⟩ | ⟨z, _⟩ | ⟨_, z⟩ | ⟨z, _⟩ | ⟨z, _⟩ | ⟨z, _⟩ | ⟨z, _⟩
    · exact absurd z (by decide)
    · exact absurd z (by decide)
    · exact z
    all_goals exact absurd z (by decide)
  · rcases h 3 (by decide) with ⟨z, _⟩ | ⟨z, _⟩ | ⟨z, _⟩ | ⟨_, z⟩ | ⟨z, _⟩ | ⟨z, _⟩ | ⟨z, _⟩
    · exact absurd z (by decide)
    · exact absurd z (by decide)
    · exact absurd z (by decide)
    · exact z
    all_goals exact absurd z (by decide)
  · rcases h 4 (by decide) with ⟨z, _⟩ | ⟨z, _⟩ | ⟨z, _⟩ | ⟨z, _⟩ | ⟨_, z⟩ | ⟨z, _⟩ | ⟨z, _⟩
    · exact absurd z (by decide)
    · exact absurd z (by decide)
    · exact absurd z (by decide)
    · exact absurd z (by decide)
    · exact z
    all_goals exact absurd z (by decide)
  · rcases h 5 (by decide) with ⟨z, _⟩ | ⟨z, _⟩ | ⟨z, _⟩ | ⟨z, _⟩ | ⟨z, _⟩ | ⟨_, z⟩ | ⟨z, _⟩
    · exact absurd z (by decide)
    · exact absurd z (by decide)
    · exact absurd z (by decide)
    · exact absurd z (by decide)
    · exact absurd z (by decide)
    · exact z
    all_goals exact absurd z (by decide)
  · intro o ho
    rcases h (6 + o) (by omega) with ⟨z, _⟩ | ⟨z, _⟩ | ⟨z, _⟩ | ⟨z, _⟩ | ⟨z, _⟩ | ⟨z, _⟩ | ⟨_, _, z⟩
    · omega
    · omega
    · omega
    · omega
    · omega
    · omega
    · exact z
theorem sp_tx_up {q : sp_R} {u k : Nat} {x : Int32} (hk : k < 183) : sp_tx (sp_up q k x) u = sp_tx q u := funext fun j => sp_up_ne q x (by omega)
theorem sp_tw_up {q : sp_R} {u k : Nat} {x : Int32} (hk : k < 183) (h6 : k ≠ 6 + u) (h : sp_tw q u) : sp_tw (sp_up q k x) u := by
  unfold sp_tw
  rw [sp_tx_up hk, sp_up_ne q x (fun z => h6 z.symm)]
  exact h
theorem sp_wf_f {q : sp_R} (h : sp_wf q) {i w : Nat} (hi : i < 10) (hw : w < 10) {x : Int32} (hx : sp_al w x) : sp_wf (sp_up q (13 + 10 * i + w) x) := by
  obtain ⟨a0, a1, a2, a3, a4, a5, a6, a7, a8, a9⟩ := h
  have e : sp_n (sp_up q (13 + 10 * i + w) x) = sp_n q := by unfold sp_n; rw [sp_up_ne q x (by omega)]
  refine ⟨?_, ?_, ?_, ?_, ?_, ?_, ?_, ?_, ?_, ?_⟩
  · rw [sp_up_ne q x (by omega)]; exact a0
  · intro j hj
    rw [e] at hj
    refine sp_al_fw (fun v hv => ?_)
    by_cases hz : 13 + 10 * j + v = 13 + 10 * i + w
    · rw [hz, sp_up_eq]
      obtain rfl : v = w := by omega
      exact hx
    · rw [sp_up_ne q x hz]
      exact sp_fw_al (a1 j hj) hv
  · intro u hu
    exact sp_tw_up (by omega) (by omega) (a2 u hu)
  · rw [sp_up_ne q x (by omega)]; exact a3
  · rw [sp_up_ne q x (by omega)]; exact a4
  · rw [sp_up_ne q x (by omega)]; exact a5
  · rw [sp_up_ne q x (by omega)]; exact a6
  · rw [sp_up_ne q x (by omega)]; exact a7
  · intro o ho
    rw [sp_up_ne q x (by omega)]; exact a8 o ho
  · intro k hk
    rw [sp_up_ne q x (by omega)]; exact a9 k hk
/-- who hears -/
def sp_dh (q : sp_R) (i : Nat) : Prop := sp_kd q i ≠ 1 ∧ sp_kd q i ≠ 4 ∧ (sp_kd q i ≠ 6 ∨ sp_m q i % 2 = 1)
/-- the row behind a hearing -/
def sp_hr (q : sp_R) (o i : Nat) : sp_R := if (sp_kd q i ≠ 1 ∧ sp_kd q i ≠ 4 ∧ (sp_kd q i ≠ 6 ∨ sp_m q i % 2 = 1)) ∧ sp_told q i o < nI 9 then sp_up (sp_up (sp_up q (13 + 10 * i + (6 + o)) (sp_told q i o + nI 1)) (13 + 10 * i + 5) (nI o)) (13 + 10 * i + 4) (if sp_f q i 4 < 0 then nI o else sp_f q i 4) else q
theorem sp_hr_wf {q : sp_R} (h : sp_wf q) {o i : Nat} (hi : i < sp_n q) (ho : o < 4) : sp_wf (sp_hr q o i) := by
  have hn := h.n.1
  have hf := h.f hi
  unfold sp_hr
  split
  · rename_i h1
    obtain ⟨k, hk, e⟩ := hf.told ho
    have h2 := h1.2
    rw [e] at h2
    have hk9 := (nI_ltI (by omega) (by decide)).mp h2
    refine sp_wf_f (sp_wf_f (sp_wf_f h (by omega) (by omega) ?_) (by omega) (by decide) ?_) (by omega) (by decide) ?_
    · exact Or.inr (Or.inr (Or.inr (Or.inr (Or.inr (Or.inr ⟨by omega, by omega, k + 1, by omega, by rw [e, nI_add]⟩)))))
    · exact Or.inr (Or.inr (Or.inr (Or.inr (Or.inr (Or.inl ⟨rfl, Or.inr ⟨o, ho, rfl⟩⟩)))))
    · refine Or.inr (Or.inr (Or.inr (Or.inr (Or.inl ⟨rfl, ?_⟩))))
      split
      · exact Or.inr ⟨o, ho, rfl⟩
      · exact hf.2.2.2.2.1
  · exact h
theorem sp_hr_ne (q : sp_R) (o i : Nat) {j : Nat} (h : j < 13 + 10 * i ∨ 23 + 10 * i ≤ j) (ho : o < 4) : sp_hr q o i j = q j := by
  unfold sp_hr
  split
  · rw [sp_up_ne _ _ (by omega), sp_up_ne _ _ (by omega), sp_up_ne _ _ (by omega)]
  · rfl
theorem sp_hr_n (q : sp_R) (o i : Nat) (ho : o < 4) : sp_n (sp_hr q o i) = sp_n q := by
  unfold sp_n
  rw [sp_hr_ne q o i (Or.inl (by omega)) ho]
def mR (k j : Nat) : Prop := k = 92 ∧ j < 283
theorem mC_u {S : wp_S} {q : sp_R} {mu : Int32} (C : mC S q mu) (k : Nat) (x : Int32) : mC (wp_u S 92 k x) (sp_up q k x) mu := by
  refine ⟨funext fun j => ?_, (if_neg (by omega) : (if 91 = 92 ∧ 7 = k then x else S.2 91 7) = _).trans C.2⟩
  rw [wp_u2, ← C.1]
  unfold sp_up
  by_cases h : j = k
  · rw [if_pos ⟨rfl, h⟩, if_pos h]
  · rw [if_neg (fun z => h z.2), if_neg h]
section HT
variable {S : wp_S} {q : sp_R} {mu : Int32} {Q : Option Value → wp_S → Prop}
theorem m_hears (C : mC S q mu) (o i : Nat) (hi : i < 10) (ho : o < 4) (hw : sp_fw q i) (K : ∀ S', mC S' (sp_hr q o i) mu → fr mR S S' → Q none S') : cl h_Mo_hears y_Mo_hears [.ref k_Mo, .int (nI o), .int (nI i)] S Q := by
  have e4 : ∀ x y, sp_up (sp_up q (13 + 10 * i + (6 + o)) x) (13 + 10 * i + 5) y (13 + 10 * i + 4) = sp_f q i 4 := fun x y => by
    rw [sp_up_ne _ _ (by omega), sp_up_ne _ _ (by omega)]
    rfl
  refine cl_in ml_Mo_hears rfl rfl ?_
  refine wp_aload_n d_Mo_hears_0 rfl rfl ?_
  refine wp_iload_n d_Mo_hears_1 rfl rfl ?_
  refine wp_invV d_Mo_hears_2 ow_Mo_hears lk_8_110 (by decide) mi_Mo_doesHear rfl rfl (Nat.le_of_ble_eq_true rfl) rfl (wp_isC (O_91 _)) (show h_Mo_doesHear ≤ _ from by decide) (m_doesHear C.1 i hi hw ?_)
  refine wp_Ki ?_
  refine wp_ifB_eq (pc' := 74) d_Mo_hears_5 (by decide) (fun h5 => ?_) (fun h5 => ?_)
  · refine wp_return d_Mo_hears_74 rt_Mo_hears ?_
    refine K _ ?_ fr.rf
    unfold sp_hr
    rw [if_neg (fun z => h5 z.1)]
    exact C
  · refine wp_aload_n d_Mo_hears_8 rfl rfl ?_
    refine wp_iload_n d_Mo_hears_9 rfl rfl ?_
    refine wp_bipush (x := nI 6) d_Mo_hears_10 (by decide) ?_
    refine wp_iload_n d_Mo_hears_12 rfl rfl ?_
    refine wp_iadd d_Mo_hears_13 (nI_add _ _) ?_
    refine wp_invV d_Mo_hears_14 ow_Mo_hears lk_8_72 (by decide) mi_Mo_its rfl rfl (Nat.le_of_ble_eq_true rfl) rfl (wp_isC (O_91 _)) (show h_Mo_its ≤ _ from by decide) (m_its C.1 i _ (by omega) ?_)
    refine wp_Ki ?_
    refine wp_bipush (x := nI 9) d_Mo_hears_17 (by decide) ?_
    refine wp_ic_ge (pc' := 74) d_Mo_hears_19 (by decide) (fun h19 => ?_) (fun h19 => ?_)
    · refine wp_return d_Mo_hears_74 rt_Mo_hears ?_
      refine K _ ?_ fr.rf
      unfold sp_hr
      rw [if_neg (fun z => absurd z.2 (Int32.not_lt.mpr h19))]
      exact C
    · refine wp_aload_n d_Mo_hears_22 rfl rfl ?_
      refine wp_iload_n d_Mo_hears_23 rfl rfl ?_
      refine wp_bipush (x := nI 6) d_Mo_hears_24 (by decide) ?_
      refine wp_iload_n d_Mo_hears_26 rfl rfl ?_
      refine wp_iadd d_Mo_hears_27 (nI_add _ _) ?_
      refine wp_aload_n d_Mo_hears_28 rfl rfl ?_
      refine wp_iload_n d_Mo_hears_29 rfl rfl ?_
      refine wp_bipush (x := nI 6) d_Mo_hears_30 (by decide) ?_
      refine wp_iload_n d_Mo_hears_32 rfl rfl ?_
      refine wp_iadd d_Mo_hears_33 (nI_add _ _) ?_
      refine wp_invV d_Mo_hears_34 ow_Mo_hears lk_8_72 (by decide) mi_Mo_its rfl rfl (Nat.le_of_ble_eq_true rfl) rfl (wp_isC (O_91 _)) (show h_Mo_its ≤ _ from by decide) (m_its C.1 i _ (by omega) ?_)
      refine wp_Ki ?_
      refine wp_iconst (x := nI 1) d_Mo_hears_37 rfl ?_
      refine wp_iadd d_Mo_hears_38 rfl ?_
      refine wp_invV d_Mo_hears_39 ow_Mo_hears lk_8_64 (by decide) mi_Mo_puts rfl rfl (Nat.le_of_ble_eq_true rfl) rfl (wp_isC (O_91 _)) (show h_Mo_puts ≤ _ from by decide) (m_puts i _ _ (by omega) ?_)
      refine wp_Kv ?_
      refine wp_aload_n d_Mo_hears_42 rfl rfl ?_
      refine wp_iload_n d_Mo_hears_43 rfl rfl ?_
      refine wp_iconst (x := nI 5) d_Mo_hears_44 rfl ?_
      refine wp_iload_n d_Mo_hears_45 rfl rfl ?_
      refine wp_invV d_Mo_hears_46 ow_Mo_hears lk_8_64 (by decide) mi_Mo_puts rfl rfl (Nat.le_of_ble_eq_true rfl) rfl (wp_isC (O_91 _)) (show h_Mo_puts ≤ _ from by decide) (m_puts i _ _ (by omega) ?_)
      refine wp_Kv ?_
      refine wp_aload_n d_Mo_hears_49 rfl rfl ?_
      refine wp_iload_n d_Mo_hears_50 rfl rfl ?_
      refine wp_iconst (x := nI 4) d_Mo_hears_51 rfl ?_
      refine wp_aload_n d_Mo_hears_52 rfl rfl ?_
      refine wp_iload_n d_Mo_hears_53 rfl rfl ?_
      refine wp_iconst (x := nI 4) d_Mo_hears_54 rfl ?_
      refine wp_invV d_Mo_hears_55 ow_Mo_hears lk_8_72 (by decide) mi_Mo_its rfl rfl (Nat.le_of_ble_eq_true rfl) rfl (wp_isC (O_91 _)) (show h_Mo_its ≤ _ from by decide) (m_its (mC_u (mC_u C _ _) _ _).1 i 4 (by omega) (lf_i (e4 _ _) ?_))
      refine wp_Ki ?_
      refine wp_if_ge (pc' := 65) d_Mo_hears_58 (by decide) (fun h58 => ?_) (fun h58 => ?_)
      · refine wp_aload_n d_Mo_hears_65 rfl rfl ?_
        refine wp_iload_n d_Mo_hears_66 rfl rfl ?_
        refine wp_iconst (x := nI 4) d_Mo_hears_67 rfl ?_
        refine wp_invV d_Mo_hears_68 ow_Mo_hears lk_8_72 (by decide) mi_Mo_its rfl rfl (Nat.le_of_ble_eq_true rfl) rfl (wp_isC (O_91 _)) (show h_Mo_its ≤ _ from by decide) (m_its (mC_u (mC_u C _ _) _ _).1 i 4 (by omega) (lf_i (e4 _ _) ?_))
        refine wp_Ki ?_
        refine wp_invV d_Mo_hears_71 ow_Mo_hears lk_8_64 (by decide) mi_Mo_puts rfl rfl (Nat.le_of_ble_eq_true rfl) rfl (wp_isC (O_91 _)) (show h_Mo_puts ≤ _ from by decide) (m_puts i _ _ (by omega) ?_)
        refine wp_Kv ?_
        refine wp_return d_Mo_hears_74 rt_Mo_hears ?_
        refine K _ ?_ (((fr.rf.up ⟨rfl, by omega⟩).up ⟨rfl, by omega⟩).up ⟨rfl, by omega⟩)
        unfold sp_hr
        rw [if_pos ⟨h5, Int32.not_le.mp h19⟩, if_neg (Int32.not_lt.mpr h58)]
        exact mC_u (mC_u (mC_u C _ _) _ _) _ _
      · refine wp_iload_n d_Mo_hears_61 rfl rfl ?_
        refine wp_goto (pc' := 71) d_Mo_hears_62 (by decide) ?_
        refine wp_invV d_Mo_hears_71 ow_Mo_hears lk_8_64 (by decide) mi_Mo_puts rfl rfl (Nat.le_of_ble_eq_true rfl) rfl (wp_isC (O_91 _)) (show h_Mo_puts ≤ _ from by decide) (m_puts i _ _ (by omega) ?_)
        refine wp_Kv ?_
        refine wp_return d_Mo_hears_74 rt_Mo_hears ?_
        refine K _ ?_ (((fr.rf.up ⟨rfl, by omega⟩).up ⟨rfl, by omega⟩).up ⟨rfl, by omega⟩)
        unfold sp_hr
        rw [if_pos ⟨h5, Int32.not_le.mp h19⟩, if_pos (Int32.not_le.mp h58)]
        exact mC_u (mC_u (mC_u C _ _) _ _) _ _
/-- a row moved -/
def mv (S : wp_S) (a b n : Nat) : wp_S := (S.1, fun c j => if c = b ∧ j < n then S.2 a j else S.2 c j)
theorem mv_0 (S : wp_S) (a b : Nat) : mv S a b 0 = S := Prod.ext rfl (funext fun c => funext fun j => if_neg (by omega))
theorem mv_s (S : wp_S) {a b : Nat} (hab : a ≠ b) (k : Nat) : wp_u (mv S a b k) b k ((mv S a b k).2 a k) = mv S a b (k + 1) := by
  refine Prod.ext rfl (funext fun c => funext fun j => ?_)
  rw [wp_u2]
  simp only [mv]
  rw [if_neg (show ¬ (a = b ∧ k < k) from fun z => hab z.1)]
  by_cases h1 : c = b ∧ j = k
  · rw [if_pos h1, if_pos (by omega), h1.2]
  · by_cases h2 : c = b ∧ j < k
    · rw [if_neg h1, if_pos h2, if_pos (by omega)]
    · rw [if_neg h1, if_neg h2, if_neg (by omega)]
theorem m_mv_loop {a b : Nat} (hab : a ≠ b) (hA : ∀ S, wp_A S a 283) (hB : ∀ S, wp_A S b 283) (K : Q none (mv S a b 283)) : ∀ m k, k + m = 283 → wp (h_Mo_moveAll - 1) y_Mo_moveAll 2 [some (.ref 91), some (.ref a), some (.ref b), some (.int (nI k))] [] (mv S a b k) Q := by
  intro m
  induction m with
  | zero =>
    intro k hk
    obtain rfl : k = 283 := by omega
    refine wp_iload_n d_Mo_moveAll_2 rfl rfl ?_
    refine wp_sipush (x := nI 283) d_Mo_moveAll_3 (by decide) ?_
    refine wp_icN_ge (pc' := 21) d_Mo_moveAll_6 (by decide) (by omega) (by omega) (fun _ => ?_) (fun q => absurd q (by decide))
    refine wp_return d_Mo_moveAll_21 rt_Mo_moveAll ?_
    exact K
  | succ m ih =>
    intro k hk
    refine wp_iload_n d_Mo_moveAll_2 rfl rfl ?_
    refine wp_sipush (x := nI 283) d_Mo_moveAll_3 (by decide) ?_
    refine wp_icN_ge (pc' := 21) d_Mo_moveAll_6 (by decide) (by omega) (by omega) (fun h6 => absurd h6 (by omega)) (fun h6 => ?_)
    refine wp_aload_n d_Mo_moveAll_9 rfl rfl ?_
    refine wp_iload_n d_Mo_moveAll_10 rfl rfl ?_
    refine wp_aload_n d_Mo_moveAll_11 rfl rfl ?_
    refine wp_iload_n d_Mo_moveAll_12 rfl rfl ?_
    refine wp_iaload d_Mo_moveAll_13 (hA _) (by omega) (by decide) (rfl) ?_
    refine wp_iastore d_Mo_moveAll_14 (hB _) (by omega) (by decide) ?_
    refine wp_eqS (mv_s S hab k) ?_
    refine wp_iinc3 d_Mo_moveAll_15 rfl (nI_add _ 1) ?_
    refine wp_goto (pc' := 2) d_Mo_moveAll_18 (by decide) ?_
    exact ih (k + 1) (by omega)
theorem m_moveAll {a b : Nat} (hab : a ≠ b) (hA : ∀ S, wp_A S a 283) (hB : ∀ S, wp_A S b 283) (K : Q none (mv S a b 283)) : cl h_Mo_moveAll y_Mo_moveAll [.ref k_Mo, .ref a, .ref b] S Q := by
  refine cl_in ml_Mo_moveAll rfl rfl ?_
  refine wp_iconst (x := nI 0) d_Mo_moveAll_0 rfl ?_
  refine wp_iston3 d_Mo_moveAll_1 rfl ?_
  exact (mv_0 S a b) ▸ m_mv_loop (S := S) hab hA hB K 283 0 (by omega)
theorem m_canTell (C : mC S q mu) (o i : Nat) (hi : i < 10) (ho : o < 4) (K : Q (some (.int (bi (sp_told q i o < nI 9 ∧ q 1 < nI 9999)))) S) : cl h_Mo_canTell y_Mo_canTell [.ref k_Mo, .int (nI o), .int (nI i)] S Q := by
  refine cl_in ml_Mo_canTell rfl rfl ?_
  refine wp_aload_n d_Mo_canTell_0 rfl rfl ?_
  refine wp_iload_n d_Mo_canTell_1 rfl rfl ?_
  refine wp_bipush (x := nI 6) d_Mo_canTell_2 (by decide) ?_
  refine wp_iload_n d_Mo_canTell_4 rfl rfl ?_
  refine wp_iadd d_Mo_canTell_5 (nI_add _ _) ?_
  refine wp_invV d_Mo_canTell_6 ow_Mo_canTell lk_8_72 (by decide) mi_Mo_its rfl rfl (Nat.le_of_ble_eq_true rfl) rfl (wp_isC (O_91 _)) (show h_Mo_its ≤ _ from by decide) (m_its C.1 i _ (by omega) ?_)
  refine wp_Ki ?_
  refine wp_bipush (x := nI 9) d_Mo_canTell_9 (by decide) ?_
  refine wp_ic_ge (pc' := 30) d_Mo_canTell_11 (by decide) (fun h11 => ?_) (fun h11 => ?_)
  · refine wp_iconst (x := nI 0) d_Mo_canTell_30 rfl ?_
    refine wp_retz d_Mo_canTell_31 rt_Mo_canTell (by first | exact Or.inl rfl | exact Or.inr rfl) ?_
    exact lf_i (bi_f (fun z => absurd z.1 (Int32.not_lt.mpr h11))).symm K
  · refine wp_aload_n d_Mo_canTell_14 rfl rfl ?_
    refine wp_getR d_Mo_canTell_15 ow_Mo_canTell fl_8_7 (O_91 _) rfl ?_
    refine wp_iconst (x := nI 1) d_Mo_canTell_18 rfl ?_
    refine wp_iaload d_Mo_canTell_19 (A_92 _) (by omega) (by decide) (congrFun C.1 1) ?_
    refine wp_sipush (x := nI 9999) d_Mo_canTell_20 (by decide) ?_
    refine wp_ic_ge (pc' := 30) d_Mo_canTell_23 (by decide) (fun h23 => ?_) (fun h23 => ?_)
    · refine wp_iconst (x := nI 0) d_Mo_canTell_30 rfl ?_
      refine wp_retz d_Mo_canTell_31 rt_Mo_canTell (by first | exact Or.inl rfl | exact Or.inr rfl) ?_
      exact lf_i (bi_f (fun z => absurd z.2 (Int32.not_lt.mpr h23))).symm K
    · refine wp_iconst (x := nI 1) d_Mo_canTell_26 rfl ?_
      refine wp_goto (pc' := 31) d_Mo_canTell_27 (by decide) ?_
      refine wp_retz d_Mo_canTell_31 rt_Mo_canTell (by first | exact Or.inl rfl | exact Or.inr rfl) ?_
      exact lf_i (bi_t ⟨Int32.not_le.mp h11, Int32.not_le.mp h23⟩).symm K
end HT
