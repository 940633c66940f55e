/-! the reference: what its calls come to: number of the error (0: none), answer, row -/
abbrev sp_Out : Type := Nat × Int32 × sp_R
def sp_er (f : sp_R) (e : Nat) : sp_R := if e = 0 then f else sp_up f e (f e + nI 1)
def sp_bad (q : sp_R) (e : Nat) : sp_Out := (e, -1000000000 - nI e, q)
/-- room that a call of the reference may change, errors aside -/
def mY (k j : Nat) : Prop := (k = 92 ∧ j < 283) ∨ k = 94 ∨ k = 95 ∨ k = 97 ∨ k = 98 ∨ k = 99 ∨ k = 103 ∨ ps_D k j ∨ (k = 91 ∧ j = 7)
def mX (k j : Nat) : Prop := mY k j ∨ k = 96
theorem fr_YW {S S' : wp_S} (h : fr mW S S') : fr mY S S' := h.mono (fun _ _ z => by
  rcases z with z | z | z
  · exact Or.inl z
  · exact Or.inr (Or.inr (Or.inr (Or.inl z)))
  · exact Or.inr (Or.inr (Or.inr (Or.inr (Or.inr (Or.inr (Or.inr (Or.inl z))))))))
theorem fr_YR {S S' : wp_S} (h : fr mR S S') : fr mY S S' := fr_YW (fr_W2 h)
theorem fr_YD {S S' : wp_S} (h : fr ps_D S S') : fr mY S S' := fr_YW (fr_W1 h)
def mQ (S : wp_S) (o : sp_Out) (Q : Option Value → wp_S → Prop) : Prop := ∀ S', mC S' o.2.2 (-1) → S'.2 96 = sp_er (S.2 96) o.1 → fr mX S S' → Q (some (.int o.2.1)) S'
section OU
variable {S : wp_S} {q : sp_R} {Q : Option Value → wp_S → Prop}
theorem mQ_ok {S1 : wp_S} {q' : sp_R} {a : Int32} (K : mQ S (0, a, q') Q) (C : mC S1 q' (-1)) (f : fr mY S S1) : Q (some (.int a)) S1 :=
  K S1 C (f.row (fun j z => by
    unfold mY ps_D at z
    omega)) (f.mono (fun _ _ z => Or.inl z))
theorem mQ_er {S1 : wp_S} {q' : sp_R} {e : Nat} (K : mQ S (sp_bad q' e) Q) (he : e ≠ 0) (C : mC S1 q' (-1)) (f : fr mY S S1) : Q (some (.int (-1000000000 - nI e))) (wp_u S1 96 e (S1.2 96 e + nI 1)) := by
  have h96 : S1.2 96 = S.2 96 := f.row (fun j z => by
    unfold mY ps_D at z
    omega)
  refine K _ ⟨?_, ?_⟩ ?_ ?_
  · exact (funext fun j => (if_neg (by omega) : (if 92 = 96 ∧ j = e then (S1.2 96 e + nI 1) else S1.2 92 j) = S1.2 92 j)).trans C.1
  · exact (if_neg (by omega) : (if 91 = 96 ∧ 7 = e then (S1.2 96 e + nI 1) else S1.2 91 7) = S1.2 91 7).trans C.2
  · show _ = sp_er (S.2 96) e
    unfold sp_er
    rw [if_neg he, ← h96]
    refine funext fun j => ?_
    rw [wp_u2]
    unfold sp_up
    by_cases hj : j = e
    · rw [if_pos ⟨rfl, hj⟩, if_pos hj]
    · rw [if_neg (fun z => hj z.2), if_neg hj]
  · exact (f.mono (fun _ _ z => Or.inl z)).up (Or.inr rfl)
/-- is a field, is an owner -/
abbrev sp_isF (q : sp_R) (v : Int32) : Prop := 0 ≤ v ∧ v ≤ q 0 - nI 1
abbrev sp_isW (v : Int32) (n : Nat) : Prop := 0 ≤ v ∧ v ≤ nI n
theorem sp_isF_of (hw : sp_wf q) {v : Int32} (h : sp_isF q v) : ∃ i, i < sp_n q ∧ v = nI i := by
  have hn := hw.n
  unfold sp_isF at h
  rw [hn.2] at h
  exact (i_fld (by omega)).mp h
noncomputable def op_tellings (q : sp_R) (v w : Int32) : sp_Out := sp_if (sp_isF q v ∧ sp_isW w 3) (0, sp_told q v.toNatClampNeg w.toNatClampNeg, q) (sp_bad q 1)
theorem m_tellings (C : mC S q (-1)) (hw : sp_wf q) (v w : Int32) (K : mQ S (op_tellings q v w) Q) : cl h_Mo_tellings y_Mo_tellings [.ref k_Mo, .int v, .int w] S Q := by
  have hn := hw.n
  unfold op_tellings at K
  by_cases h : sp_isF q v ∧ sp_isW w 3
  · rw [sp_if_t h] at K
    obtain ⟨i, hi, rfl⟩ := sp_isF_of hw h.1
    obtain ⟨o, ho, rfl⟩ := (i_in (by decide)).mp h.2
    rw [nI_clamp (by omega), nI_clamp (by omega)] at K
    refine cl_in ml_Mo_tellings rfl rfl ?_
    refine wp_aload_n d_Mo_tellings_0 rfl rfl ?_
    refine wp_iload_n d_Mo_tellings_1 rfl rfl ?_
    refine wp_invV d_Mo_tellings_2 ow_Mo_tellings lk_8_93 (by decide) mi_Mo_isField rfl rfl (Nat.le_of_ble_eq_true rfl) rfl (wp_isC (O_91 _)) (show h_Mo_isField ≤ _ from by decide) (m_isField C.1 _ ?_)
    refine wp_Ki ?_
    refine wp_ifB_eq (pc' := 27) d_Mo_tellings_5 (by decide) (fun h5 => absurd h.1 h5) (fun h5 => ?_)
    refine wp_iload_n d_Mo_tellings_8 rfl rfl ?_
    refine wp_invS d_Mo_tellings_9 ow_Mo_tellings lk_8_100 (by decide) mi_Mo_isOwner rfl rfl (Nat.le_of_ble_eq_true rfl) rfl (show h_Mo_isOwner ≤ _ from by decide) (m_isOwner _ ?_)
    refine wp_Ki ?_
    refine wp_ifB_eq (pc' := 27) d_Mo_tellings_12 (by decide) (fun h12 => absurd h.2 h12) (fun h12 => ?_)
    refine wp_aload_n d_Mo_tellings_15 rfl rfl ?_
    refine wp_iload_n d_Mo_tellings_16 rfl rfl ?_
    refine wp_bipush (x := nI 6) d_Mo_tellings_17 (by decide) ?_
    refine wp_iload_n d_Mo_tellings_19 rfl rfl ?_
    refine wp_iadd d_Mo_tellings_20 (nI_add _ _) ?_
    refine wp_invV d_Mo_tellings_21 ow_Mo_tellings lk_8_72 (by decide) mi_Mo_its rfl rfl (Nat.le_of_ble_eq_true rfl) rfl (wp_isC (O_91 _)) (show h_Mo_its ≤ _ from by decide) (m_its C.1 i _ (by omega) ?_)
    refine wp_Ki ?_
    refine wp_goto (pc' := 33) d_Mo_tellings_24 (by decide) ?_
    refine wp_reti d_Mo_tellings_33 rt_Mo_tellings ?_
    exact mQ_ok K C fr.rf
  · rw [sp_if_f h] at K
    refine cl_in ml_Mo_tellings rfl rfl ?_
    refine wp_aload_n d_Mo_tellings_0 rfl rfl ?_
    refine wp_iload_n d_Mo_tellings_1 rfl rfl ?_
    refine wp_invV d_Mo_tellings_2 ow_Mo_tellings lk_8_93 (by decide) mi_Mo_isField rfl rfl (Nat.le_of_ble_eq_true rfl) rfl (wp_isC (O_91 _)) (show h_Mo_isField ≤ _ from by decide) (m_isField C.1 _ ?_)
    refine wp_Ki ?_
    refine wp_ifB_eq (pc' := 27) d_Mo_tellings_5 (by decide) (fun h5 => ?_) (fun h5 => ?_)
    · refine wp_aload_n d_Mo_tellings_27 rfl rfl ?_
      refine wp_ldc (v := .int (-1000000001)) d_Mo_tellings_28 ow_Mo_tellings (by decide +kernel) ?_
      refine wp_invV d_Mo_tellings_30 ow_Mo_tellings lk_8_59 (by decide) mi_Mo_errs rfl rfl (Nat.le_of_ble_eq_true rfl) rfl (wp_isC (O_91 _)) (show h_Mo_errs ≤ _ from by decide) (m_errs _ 1 (by decide) (by decide) ?_)
      refine wp_Ki ?_
      refine wp_reti d_Mo_tellings_33 rt_Mo_tellings ?_
      exact lf_i (by decide) (mQ_er (e := 1) K (by decide) C fr.rf)
    · refine wp_iload_n d_Mo_tellings_8 rfl rfl ?_
      refine wp_invS d_Mo_tellings_9 ow_Mo_tellings lk_8_100 (by decide) mi_Mo_isOwner rfl rfl (Nat.le_of_ble_eq_true rfl) rfl (show h_Mo_isOwner ≤ _ from by decide) (m_isOwner _ ?_)
      refine wp_Ki ?_
      refine wp_ifB_eq (pc' := 27) d_Mo_tellings_12 (by decide) (fun h12 => ?_) (fun h12 => absurd ⟨h5, h12⟩ h)
      refine wp_aload_n d_Mo_tellings_27 rfl rfl ?_
      refine wp_ldc (v := .int (-1000000001)) d_Mo_tellings_28 ow_Mo_tellings (by decide +kernel) ?_
      refine wp_invV d_Mo_tellings_30 ow_Mo_tellings lk_8_59 (by decide) mi_Mo_errs rfl rfl (Nat.le_of_ble_eq_true rfl) rfl (wp_isC (O_91 _)) (show h_Mo_errs ≤ _ from by decide) (m_errs _ 1 (by decide) (by decide) ?_)
      refine wp_Ki ?_
      refine wp_reti d_Mo_tellings_33 rt_Mo_tellings ?_
      exact lf_i (by decide) (mQ_er (e := 1) K (by decide) C fr.rf)
noncomputable def op_fear (q : sp_R) (o v : Int32) : sp_Out := sp_if (sp_isW o 3 ∧ sp_isW v 9) (0, sp_fear q o.toNatClampNeg, sp_up q (9 + o.toNatClampNeg) v) (sp_bad q 1)
theorem m_fear (C : mC S q (-1)) (o v : Int32) (K : mQ S (op_fear q o v) Q) : cl h_Mo_fear y_Mo_fear [.ref k_Mo, .int o, .int v] S Q := by
  unfold op_fear at K
  by_cases h : sp_isW o 3 ∧ sp_isW v 9
  · rw [sp_if_t h] at K
    obtain ⟨o', ho, rfl⟩ := (i_in (by decide)).mp h.1
    rw [nI_clamp (by omega)] at K
    refine cl_in ml_Mo_fear rfl rfl ?_
    refine wp_iload_n d_Mo_fear_0 rfl rfl ?_
    refine wp_invS d_Mo_fear_1 ow_Mo_fear lk_8_100 (by decide) mi_Mo_isOwner rfl rfl (Nat.le_of_ble_eq_true rfl) rfl (show h_Mo_isOwner ≤ _ from by decide) (m_isOwner _ ?_)
    refine wp_Ki ?_
    refine wp_ifB_eq (pc' := 17) d_Mo_fear_4 (by decide) (fun h4 => absurd h.1 h4) (fun h4 => ?_)
    refine wp_iload_n d_Mo_fear_7 rfl rfl ?_
    refine wp_iconst (x := nI 0) d_Mo_fear_8 rfl ?_
    refine wp_bipush (x := nI 9) d_Mo_fear_9 (by decide) ?_
    refine wp_invS d_Mo_fear_11 ow_Mo_fear lk_8_54 (by decide) mi_Mo_in rfl rfl (Nat.le_of_ble_eq_true rfl) rfl (show h_Mo_in ≤ _ from by decide) (m_in _ _ _ ?_)
    refine wp_Ki ?_
    refine wp_ifB_ne (pc' := 24) d_Mo_fear_14 (by decide) (fun h14 => ?_) (fun h14 => absurd h.2 h14)
    refine wp_aload_n d_Mo_fear_24 rfl rfl ?_
    refine wp_getR d_Mo_fear_25 ow_Mo_fear fl_8_7 (O_91 _) rfl ?_
    refine wp_bipush (x := nI 9) d_Mo_fear_28 (by decide) ?_
    refine wp_iload_n d_Mo_fear_30 rfl rfl ?_
    refine wp_iadd d_Mo_fear_31 (nI_add _ _) ?_
    refine wp_iaload d_Mo_fear_32 (A_92 _) (by omega) (by decide) (congrFun C.1 _) ?_
    refine wp_iston3 d_Mo_fear_33 rfl ?_
    refine wp_aload_n d_Mo_fear_34 rfl rfl ?_
    refine wp_getR d_Mo_fear_35 ow_Mo_fear fl_8_7 (O_91 _) rfl ?_
    refine wp_bipush (x := nI 9) d_Mo_fear_38 (by decide) ?_
    refine wp_iload_n d_Mo_fear_40 rfl rfl ?_
    refine wp_iadd d_Mo_fear_41 (nI_add _ _) ?_
    refine wp_iload_n d_Mo_fear_42 rfl rfl ?_
    refine wp_iastore d_Mo_fear_43 (A_92 _) (by omega) (by decide) ?_
    refine wp_iload_n d_Mo_fear_44 rfl rfl ?_
    refine wp_reti d_Mo_fear_45 rt_Mo_fear ?_
    exact mQ_ok K (mC_u C _ _) (fr_YR (fr.rf.up ⟨rfl, by omega⟩))
  · rw [sp_if_f h] at K
    refine cl_in ml_Mo_fear rfl rfl ?_
    refine wp_iload_n d_Mo_fear_0 rfl rfl ?_
    refine wp_invS d_Mo_fear_1 ow_Mo_fear lk_8_100 (by decide) mi_Mo_isOwner rfl rfl (Nat.le_of_ble_eq_true rfl) rfl (show h_Mo_isOwner ≤ _ from by decide) (m_isOwner _ ?_)
    refine wp_Ki ?_
    refine wp_ifB_eq (pc' := 17) d_Mo_fear_4 (by decide) (fun h4 => ?_) (fun h4 => ?_)
    · refine wp_aload_n d_Mo_fear_17 rfl rfl ?_
      refine wp_ldc (v := .int (-1000000001)) d_Mo_fear_18 ow_Mo_fear (by decide +kernel) ?_
      refine wp_invV d_Mo_fear_20 ow_Mo_fear lk_8_59 (by decide) mi_Mo_errs rfl rfl (Nat.le_of_ble_eq_true rfl) rfl (wp_isC (O_91 _)) (show h_Mo_errs ≤ _ from by decide) (m_errs _ 1 (by decide) (by decide) ?_)
      refine wp_Ki ?_
      refine wp_reti d_Mo_fear_23 rt_Mo_fear ?_
      exact lf_i (by decide) (mQ_er (e := 1) K (by decide) C fr.rf)
    · refine wp_iload_n d_Mo_fear_7 rfl rfl ?_
      refine wp_iconst (x := nI 0) d_Mo_fear_8 rfl ?_
      refine wp_bipush (x := nI 9) d_Mo_fear_9 (by decide) ?_
      refine wp_invS d_Mo_fear_11 ow_Mo_fear lk_8_54 (by decide) mi_Mo_in rfl rfl (Nat.le_of_ble_eq_true rfl) rfl (show h_Mo_in ≤ _ from by decide) (m_in _ _ _ ?_)
      refine wp_Ki ?_
      refine wp_ifB_ne (pc' := 24) d_Mo_fear_14 (by decide) (fun h14 => absurd ⟨h4, h14⟩ h) (fun h14 => ?_)
      refine wp_aload_n d_Mo_fear_17 rfl rfl ?_
      refine wp_ldc (v := .int (-1000000001)) d_Mo_fear_18 ow_Mo_fear (by decide +kernel) ?_
      refine wp_invV d_Mo_fear_20 ow_Mo_fear lk_8_59 (by decide) mi_Mo_errs rfl rfl (Nat.le_of_ble_eq_true rfl) rfl (wp_isC (O_91 _)) (show h_Mo_errs ≤ _ from by decide) (m_errs _ 1 (by decide) (by decide) ?_)
      refine wp_Ki ?_
      refine wp_reti d_Mo_fear_23 rt_Mo_fear ?_
      exact lf_i (by decide) (mQ_er (e := 1) K (by decide) C fr.rf)
noncomputable def op_pace (q : sp_R) (v : Int32) : sp_Out := sp_if (nI 1 ≤ v ∧ v ≤ nI 20) (0, q 8, sp_up q 8 v) (sp_bad q 1)
theorem m_pace (C : mC S q (-1)) (v : Int32) (K : mQ S (op_pace q v) Q) : cl h_Mo_pace y_Mo_pace [.ref k_Mo, .int v] S Q := by
  unfold op_pace at K
  refine cl_in ml_Mo_pace rfl rfl ?_
  refine wp_iload_n d_Mo_pace_0 rfl rfl ?_
  refine wp_iconst (x := nI 1) d_Mo_pace_1 rfl ?_
  refine wp_bipush (x := nI 20) d_Mo_pace_2 (by decide) ?_
  refine wp_invS d_Mo_pace_4 ow_Mo_pace lk_8_54 (by decide) mi_Mo_in rfl rfl (Nat.le_of_ble_eq_true rfl) rfl (show h_Mo_in ≤ _ from by decide) (m_in _ _ _ ?_)
  refine wp_Ki ?_
  refine wp_ifB_ne (pc' := 17) d_Mo_pace_7 (by decide) (fun h7 => ?_) (fun h7 => ?_)
  · refine wp_aload_n d_Mo_pace_17 rfl rfl ?_
    refine wp_getR d_Mo_pace_18 ow_Mo_pace fl_8_7 (O_91 _) rfl ?_
    refine wp_bipush (x := nI 8) d_Mo_pace_21 (by decide) ?_
    refine wp_iaload d_Mo_pace_23 (A_92 _) (by omega) (by decide) (congrFun C.1 _) ?_
    refine wp_iston2 d_Mo_pace_24 rfl ?_
    refine wp_aload_n d_Mo_pace_25 rfl rfl ?_
    refine wp_getR d_Mo_pace_26 ow_Mo_pace fl_8_7 (O_91 _) rfl ?_
    refine wp_bipush (x := nI 8) d_Mo_pace_29 (by decide) ?_
    refine wp_iload_n d_Mo_pace_31 rfl rfl ?_
    refine wp_iastore d_Mo_pace_32 (A_92 _) (by omega) (by decide) ?_
    refine wp_iload_n d_Mo_pace_33 rfl rfl ?_
    refine wp_reti d_Mo_pace_34 rt_Mo_pace ?_
    rw [sp_if_t h7] at K
    exact mQ_ok K (mC_u C _ _) (fr_YR (fr.rf.up ⟨rfl, by decide⟩))
  · refine wp_aload_n d_Mo_pace_10 rfl rfl ?_
    refine wp_ldc (v := .int (-1000000001)) d_Mo_pace_11 ow_Mo_pace (by decide +kernel) ?_
    refine wp_invV d_Mo_pace_13 ow_Mo_pace lk_8_59 (by decide) mi_Mo_errs rfl rfl (Nat.le_of_ble_eq_true rfl) rfl (wp_isC (O_91 _)) (show h_Mo_errs ≤ _ from by decide) (m_errs _ 1 (by decide) (by decide) ?_)
    refine wp_Ki ?_
    refine wp_reti d_Mo_pace_16 rt_Mo_pace ?_
    rw [sp_if_f h7] at K
    exact lf_i (by decide) (mQ_er (e := 1) K (by decide) C fr.rf)
def op_seed (q : sp_R) (v : Int32) : sp_Out := (0, q 3, sp_up q 3 v)
theorem m_seed (C : mC S q (-1)) (v : Int32) (K : mQ S (op_seed q v) Q) : cl h_Mo_seed y_Mo_seed [.ref k_Mo, .int v] S Q := by
  refine cl_in ml_Mo_seed rfl rfl ?_
  refine wp_aload_n d_Mo_seed_0 rfl rfl ?_
  refine wp_getR d_Mo_seed_1 ow_Mo_seed fl_8_7 (O_91 _) rfl ?_
  refine wp_iconst (x := nI 3) d_Mo_seed_4 rfl ?_
  refine wp_iaload d_Mo_seed_5 (A_92 _) (by omega) (by decide) (congrFun C.1 _) ?_
  refine wp_iston2 d_Mo_seed_6 rfl ?_
  refine wp_aload_n d_Mo_seed_7 rfl rfl ?_
  refine wp_getR d_Mo_seed_8 ow_Mo_seed fl_8_7 (O_91 _) rfl ?_
  refine wp_iconst (x := nI 3) d_Mo_seed_11 rfl ?_
  refine wp_iload_n d_Mo_seed_12 rfl rfl ?_
  refine wp_iastore d_Mo_seed_13 (A_92 _) (by omega) (by decide) ?_
  refine wp_iload_n d_Mo_seed_14 rfl rfl ?_
  refine wp_reti d_Mo_seed_15 rt_Mo_seed ?_
  exact mQ_ok K (mC_u C _ _) (fr_YR (fr.rf.up ⟨rfl, by decide⟩))
noncomputable def op_become (q : sp_R) (v w : Int32) : sp_Out := sp_if (sp_isF q v ∧ sp_isW w 69) (0, sp_f q v.toNatClampNeg 0, sp_up (sp_up q (13 + 10 * v.toNatClampNeg + 0) (nI (w.toNatClampNeg / 10))) (13 + 10 * v.toNatClampNeg + 1) (nI (w.toNatClampNeg % 10))) (sp_bad q 1)
theorem m_become (C : mC S q (-1)) (hw : sp_wf q) (v w : Int32) (K : mQ S (op_become q v w) Q) : cl h_Mo_become y_Mo_become [.ref k_Mo, .int v, .int w] S Q := by
  have hn := hw.n
  unfold op_become at K
  by_cases h : sp_isF q v ∧ sp_isW w 69
  · rw [sp_if_t h] at K
    obtain ⟨i, hi, rfl⟩ := sp_isF_of hw h.1
    obtain ⟨km, hk, rfl⟩ := (i_in (by decide)).mp h.2
    rw [nI_clamp (by omega), nI_clamp (by omega)] at K
    refine cl_in ml_Mo_become rfl rfl ?_
    refine wp_aload_n d_Mo_become_0 rfl rfl ?_
    refine wp_iload_n d_Mo_become_1 rfl rfl ?_
    refine wp_invV d_Mo_become_2 ow_Mo_become lk_8_93 (by decide) mi_Mo_isField rfl rfl (Nat.le_of_ble_eq_true rfl) rfl (wp_isC (O_91 _)) (show h_Mo_isField ≤ _ from by decide) (m_isField C.1 _ ?_)
    refine wp_Ki ?_
    refine wp_ifB_eq (pc' := 18) d_Mo_become_5 (by decide) (fun h5 => absurd h.1 h5) (fun h5 => ?_)
    refine wp_iload_n d_Mo_become_8 rfl rfl ?_
    refine wp_iconst (x := nI 0) d_Mo_become_9 rfl ?_
    refine wp_bipush (x := nI 69) d_Mo_become_10 (by decide) ?_
    refine wp_invS d_Mo_become_12 ow_Mo_become lk_8_54 (by decide) mi_Mo_in rfl rfl (Nat.le_of_ble_eq_true rfl) rfl (show h_Mo_in ≤ _ from by decide) (m_in _ _ _ ?_)
    refine wp_Ki ?_
    refine wp_ifB_ne (pc' := 25) d_Mo_become_15 (by decide) (fun h15 => ?_) (fun h15 => absurd h.2 h15)
    refine wp_aload_n d_Mo_become_25 rfl rfl ?_
    refine wp_iload_n d_Mo_become_26 rfl rfl ?_
    refine wp_iconst (x := nI 0) d_Mo_become_27 rfl ?_
    refine wp_invV d_Mo_become_28 ow_Mo_become lk_8_72 (by decide) mi_Mo_its rfl rfl (Nat.le_of_ble_eq_true rfl) rfl (wp_isC (O_91 _)) (show h_Mo_its ≤ _ from by decide) (m_its C.1 i _ (by omega) ?_)
    refine wp_Ki ?_
    refine wp_iston3 d_Mo_become_31 rfl ?_
    refine wp_aload_n d_Mo_become_32 rfl rfl ?_
    refine wp_iload_n d_Mo_become_33 rfl rfl ?_
    refine wp_iconst (x := nI 0) d_Mo_become_34 rfl ?_
    refine wp_iload_n d_Mo_become_35 rfl rfl ?_
    refine wp_bipush (x := nI 10) d_Mo_become_36 (by decide) ?_
    refine wp_idivN d_Mo_become_38 (by omega) (by omega) (by omega) ?_
    refine wp_invV d_Mo_become_39 ow_Mo_become lk_8_64 (by decide) mi_Mo_puts rfl rfl (Nat.le_of_ble_eq_true rfl) rfl (wp_isC (O_91 _)) (show h_Mo_puts ≤ _ from by decide) (m_puts i _ _ (by omega) ?_)
    refine wp_Kv ?_
    refine wp_aload_n d_Mo_become_42 rfl rfl ?_
    refine wp_iload_n d_Mo_become_43 rfl rfl ?_
    refine wp_iconst (x := nI 1) d_Mo_become_44 rfl ?_
    refine wp_iload_n d_Mo_become_45 rfl rfl ?_
    refine wp_bipush (x := nI 10) d_Mo_become_46 (by decide) ?_
    refine wp_iremN d_Mo_become_48 (by omega) (by omega) (by omega) ?_
    refine wp_invV d_Mo_become_49 ow_Mo_become lk_8_64 (by decide) mi_Mo_puts rfl rfl (Nat.le_of_ble_eq_true rfl) rfl (wp_isC (O_91 _)) (show h_Mo_puts ≤ _ from by decide) (m_puts i _ _ (by omega) ?_)
    refine wp_Kv ?_
    refine wp_iload_n d_Mo_become_52 rfl rfl ?_
    refine wp_reti d_Mo_become_53 rt_Mo_become ?_
    exact mQ_ok K (mC_u (mC_u C _ _) _ _) (fr_YR ((fr.rf.up ⟨rfl, by omega⟩).up ⟨rfl, by omega⟩))
  · rw [sp_if_f h] at K
    refine cl_in ml_Mo_become rfl rfl ?_
    refine wp_aload_n d_Mo_become_0 rfl rfl ?_
    refine wp_iload_n d_Mo_become_1 rfl rfl ?_
    refine wp_invV d_Mo_become_2 ow_Mo_become lk_8_93 (by decide) mi_Mo_isField rfl rfl (Nat.le_of_ble_eq_true rfl) rfl (wp_isC (O_91 _)) (show h_Mo_isField ≤ _ from by decide) (m_isField C.1 _ ?_)
    refine wp_Ki ?_
    refine wp_ifB_eq (pc' := 18) d_Mo_become_5 (by decide) (fun h5 => ?_) (fun h5 => ?_)
    · refine wp_aload_n d_Mo_become_18 rfl rfl ?_
      refine wp_ldc (v := .int (-1000000001)) d_Mo_become_19 ow_Mo_become (by decide +kernel) ?_
      refine wp_invV d_Mo_become_21 ow_Mo_become lk_8_59 (by decide) mi_Mo_errs rfl rfl (Nat.le_of_ble_eq_true rfl) rfl (wp_isC (O_91 _)) (show h_Mo_errs ≤ _ from by decide) (m_errs _ 1 (by decide) (by decide) ?_)
      refine wp_Ki ?_
      refine wp_reti d_Mo_become_24 rt_Mo_become ?_
      exact lf_i (by decide) (mQ_er (e := 1) K (by decide) C fr.rf)
    · refine wp_iload_n d_Mo_become_8 rfl rfl ?_
      refine wp_iconst (x := nI 0) d_Mo_become_9 rfl ?_
      refine wp_bipush (x := nI 69) d_Mo_become_10 (by decide) ?_
      refine wp_invS d_Mo_become_12 ow_Mo_become lk_8_54 (by decide) mi_Mo_in rfl rfl (Nat.le_of_ble_eq_true rfl) rfl (show h_Mo_in ≤ _ from by decide) (m_in _ _ _ ?_)
      refine wp_Ki ?_
      refine wp_ifB_ne (pc' := 25) d_Mo_become_15 (by decide) (fun h15 => absurd ⟨h5, h15⟩ h) (fun h15 => ?_)
      refine wp_aload_n d_Mo_become_18 rfl rfl ?_
      refine wp_ldc (v := .int (-1000000001)) d_Mo_become_19 ow_Mo_become (by decide +kernel) ?_
      refine wp_invV d_Mo_become_21 ow_Mo_become lk_8_59 (by decide) mi_Mo_errs rfl rfl (Nat.le_of_ble_eq_true rfl) rfl (wp_isC (O_91 _)) (show h_Mo_errs ≤ _ from by decide) (m_errs _ 1 (by decide) (by decide) ?_)
      refine wp_Ki ?_
      refine wp_reti d_Mo_become_24 rt_Mo_become ?_
      exact lf_i (by decide) (mQ_er (e := 1) K (by decide) C fr.rf)
noncomputable def op_tells (q : sp_R) (o v : Int32) : sp_Out := sp_if (sp_isW o 3 ∧ sp_isF q v) (sp_if (sp_told q v.toNatClampNeg o.toNatClampNeg < nI 9 ∧ q 1 < nI 9999) (0, sp_who (sp_tl q (-1) o.toNatClampNeg v.toNatClampNeg) (-1) v.toNatClampNeg, sp_tl q (-1) o.toNatClampNeg v.toNatClampNeg) (sp_bad q 3)) (sp_bad q 1)
theorem m_tells (C : mC S q (-1)) (hw : sp_wf q) (o v : Int32) (K : mQ S (op_tells q o v) Q) : cl h_Mo_tells y_Mo_tells [.ref k_Mo, .int o, .int v] S Q := by
  have hn := hw.n
  unfold op_tells at K
  by_cases h : sp_isW o 3 ∧ sp_isF q v
  · rw [sp_if_t h] at K
    obtain ⟨i, hi, rfl⟩ := sp_isF_of hw h.2
    obtain ⟨o', ho, rfl⟩ := (i_in (by decide)).mp h.1
    rw [nI_clamp (by omega), nI_clamp (by omega)] at K
    refine cl_in ml_Mo_tells rfl rfl ?_
    refine wp_iload_n d_Mo_tells_0 rfl rfl ?_
    refine wp_invS d_Mo_tells_1 ow_Mo_tells lk_8_100 (by decide) mi_Mo_isOwner rfl rfl (Nat.le_of_ble_eq_true rfl) rfl (show h_Mo_isOwner ≤ _ from by decide) (m_isOwner _ ?_)
    refine wp_Ki ?_
    refine wp_ifB_eq (pc' := 15) d_Mo_tells_4 (by decide) (fun h4 => absurd h.1 h4) (fun h4 => ?_)
    refine wp_aload_n d_Mo_tells_7 rfl rfl ?_
    refine wp_iload_n d_Mo_tells_8 rfl rfl ?_
    refine wp_invV d_Mo_tells_9 ow_Mo_tells lk_8_93 (by decide) mi_Mo_isField rfl rfl (Nat.le_of_ble_eq_true rfl) rfl (wp_isC (O_91 _)) (show h_Mo_isField ≤ _ from by decide) (m_isField C.1 _ ?_)
    refine wp_Ki ?_
    refine wp_ifB_ne (pc' := 22) d_Mo_tells_12 (by decide) (fun h12 => ?_) (fun h12 => absurd h.2 h12)
    refine wp_aload_n d_Mo_tells_22 rfl rfl ?_
    refine wp_iload_n d_Mo_tells_23 rfl rfl ?_
    refine wp_iload_n d_Mo_tells_24 rfl rfl ?_
    refine wp_invV d_Mo_tells_25 ow_Mo_tells lk_8_121 (by decide) mi_Mo_canTell rfl rfl (Nat.le_of_ble_eq_true rfl) rfl (wp_isC (O_91 _)) (show h_Mo_canTell ≤ _ from by decide) (m_canTell C o' i (by omega) (by omega) ?_)
    refine wp_Ki ?_
    refine wp_ifB_ne (pc' := 38) d_Mo_tells_28 (by decide) (fun h28 => ?_) (fun h28 => ?_)
    · refine wp_aload_n d_Mo_tells_38 rfl rfl ?_
      refine wp_iload_n d_Mo_tells_39 rfl rfl ?_
      refine wp_iload_n d_Mo_tells_40 rfl rfl ?_
      refine wp_invV d_Mo_tells_41 ow_Mo_tells lk_8_126 (by decide) mi_Mo_telling rfl rfl (Nat.le_of_ble_eq_true rfl) rfl (wp_isC (O_91 _)) (show h_Mo_telling ≤ _ from by decide) (m_telling C hw o' i hi (by omega) (fun S2 C2 f2 => ?_))
      refine wp_Kv ?_
      refine wp_aload_n d_Mo_tells_44 rfl rfl ?_
      refine wp_iload_n d_Mo_tells_45 rfl rfl ?_
      refine wp_invV d_Mo_tells_46 ow_Mo_tells lk_8_90 (by decide) mi_Mo_whose rfl rfl (Nat.le_of_ble_eq_true rfl) rfl (wp_isC (O_91 _)) (show h_Mo_whose ≤ _ from by decide) (m_whose C2 (sp_tl_wf hw (-1) hi (by omega) h28.2) i (by rw [sp_tl_n q (-1) o' i (by omega)]; exact hi) (fun S3 f3 => ?_))
      refine wp_Ki ?_
      refine wp_reti d_Mo_tells_49 rt_Mo_tells ?_
      rw [sp_if_t h28] at K
      exact mQ_ok K (C2.fr f3) ((fr_YW f2).tr (fr_YD f3))
    · refine wp_aload_n d_Mo_tells_31 rfl rfl ?_
      refine wp_ldc (v := .int (-1000000003)) d_Mo_tells_32 ow_Mo_tells (by decide +kernel) ?_
      refine wp_invV d_Mo_tells_34 ow_Mo_tells lk_8_59 (by decide) mi_Mo_errs rfl rfl (Nat.le_of_ble_eq_true rfl) rfl (wp_isC (O_91 _)) (show h_Mo_errs ≤ _ from by decide) (m_errs _ 3 (by decide) (by decide) ?_)
      refine wp_Ki ?_
      refine wp_reti d_Mo_tells_37 rt_Mo_tells ?_
      rw [sp_if_f h28] at K
      exact lf_i (by decide) (mQ_er (e := 3) K (by decide) C fr.rf)
  · rw [sp_if_f h] at K
    refine cl_in ml_Mo_tells rfl rfl ?_
    refine wp_iload_n d_Mo_tells_0 rfl rfl ?_
    refine wp_invS d_Mo_tells_1 ow_Mo_tells lk_8_100 (by decide) mi_Mo_isOwner rfl rfl (Nat.le_of_ble_eq_true rfl) rfl (show h_Mo_isOwner ≤ _ from by decide) (m_isOwner _ ?_)
    refine wp_Ki ?_
    refine wp_ifB_eq (pc' := 15) d_Mo_tells_4 (by decide) (fun h4 => ?_) (fun h4 => ?_)
    · refine wp_aload_n d_Mo_tells_15 rfl rfl ?_
      refine wp_ldc (v := .int (-1000000001)) d_Mo_tells_16 ow_Mo_tells (by decide +kernel) ?_
      refine wp_invV d_Mo_tells_18 ow_Mo_tells lk_8_59 (by decide) mi_Mo_errs rfl rfl (Nat.le_of_ble_eq_true rfl) rfl (wp_isC (O_91 _)) (show h_Mo_errs ≤ _ from by decide) (m_errs _ 1 (by decide) (by decide) ?_)
      refine wp_Ki ?_
      refine wp_reti d_Mo_tells_21 rt_Mo_tells ?_
      exact lf_i (by decide) (mQ_er (e := 1) K (by decide) C fr.rf)
    · refine wp_aload_n d_Mo_tells_7 rfl rfl ?_
      refine wp_iload_n d_Mo_tells_8 rfl rfl ?_
      refine wp_invV d_Mo_tells_9 ow_Mo_tells lk_8_93 (by decide) mi_Mo_isField rfl rfl (Nat.le_of_ble_eq_true rfl) rfl (wp_isC (O_91 _)) (show h_Mo_isField ≤ _ from by decide) (m_isField C.1 _ ?_)
      refine wp_Ki ?_
      refine wp_ifB_ne (pc' := 22) d_Mo_tells_12 (by decide) (fun h12 => absurd ⟨h4, h12⟩ h) (fun h12 => ?_)
      refine wp_aload_n d_Mo_tells_15 rfl rfl ?_
      refine wp_ldc (v := .int (-1000000001)) d_Mo_tells_16 ow_Mo_tells (by decide +kernel) ?_
      refine wp_invV d_Mo_tells_18 ow_Mo_tells lk_8_59 (by decide) mi_Mo_errs rfl rfl (Nat.le_of_ble_eq_true rfl) rfl (wp_isC (O_91 _)) (show h_Mo_errs ≤ _ from by decide) (m_errs _ 1 (by decide) (by decide) ?_)
      refine wp_Ki ?_
      refine wp_reti d_Mo_tells_21 rt_Mo_tells ?_
      exact lf_i (by decide) (mQ_er (e := 1) K (by decide) C fr.rf)
end OU
