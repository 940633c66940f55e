/-! the reference: voice -/
def mV (k j : Nat) : Prop := (k = 91 ∧ 24 ≤ j ∧ j ≤ 27) ∨ k = 104
theorem vl_fr : ∀ (l : List Int32) (S : wp_S) (t : Nat), fr mV S (vl S t l)
  | [], _, _ => fr.rf
  | b :: l, S, t => ((fr.rf.up (Or.inr rfl)).up (Or.inl ⟨rfl, by decide, by decide⟩)).tr (vl_fr l (vr S t b) (t + 1))
theorem vl_lt : ∀ (l : List Int32) (S : wp_S) (t : Nat) (j : Nat), j < t → (vl S t l).2 104 j = S.2 104 j
  | [], _, _, _, _ => rfl
  | b :: l, S, t, j, h => (vl_lt l (vr S t b) (t + 1) j (by omega)).trans ((wp_un (by omega)).trans (wp_un (by omega)))
theorem vl_at : ∀ (l : List Int32) (S : wp_S) (t : Nat) (j : Nat) (x : Int32), l[j]? = some x → (vl S t l).2 104 (t + j) = x
  | [], _, _, _, _, h => by cases h
  | b :: l, S, t, 0, x, h => by
    cases h
    exact (vl_lt l (vr S t b) (t + 1) t (by omega)).trans ((wp_un (by omega)).trans wp_us)
  | b :: l, S, t, j + 1, x, h => by
    rw [show t + (j + 1) = t + 1 + j by omega]
    exact vl_at l (vr S t b) (t + 1) j x h
theorem mC_V {S S' : wp_S} {q : sp_R} {mu : Int32} (C : mC S q mu) (f : fr mV S S') : mC S' q mu := mC_kp C f (fun j z => by unfold mV at z; omega) (fun z => by unfold mV at z; omega)
noncomputable def sp_vo (n m : Int32) (K a : Nat) (x : Int32) : List Int32 × Int32 := if a = 0 then sp_vh n x K else if a = 1 then sp_vs n m K x K else if a = 2 then sp_vf n m x K else sp_vt n m K x K
section VP
variable {S : wp_S} {q : sp_R} {mu : Int32} {Q : Option Value → wp_S → Prop}
theorem m_voice (C : mC S q (-1)) (hw : sp_wf q) (v a x : Int32) (K1 : ∀ i, i < sp_n q → v = nI i → ∀ b, b ≤ 3 → a = nI b → ∀ S', mC S' q (-1) → fr mV S S' → S'.2 91 24 = nI (sp_vo (nI i) (nI (sp_m q i)) (sp_kd q i) b x).1.length → (∀ j y, (sp_vo (nI i) (nI (sp_m q i)) (sp_kd q i) b x).1[j]? = some y → S'.2 104 j = y) → Q (some (.int (sp_vo (nI i) (nI (sp_m q i)) (sp_kd q i) b x).2)) S') (K0 : ¬ (sp_isF q v ∧ sp_isW a 3) → Q (some (.int (-1000000001))) (wp_u S 96 1 (S.2 96 1 + nI 1))) : cl h_Mo_voice y_Mo_voice [.ref k_Mo, .int v, .int a, .int x] S Q := by
  have hn := hw.n
  by_cases h : sp_isF q v ∧ sp_isW a 3
  · clear K0
    obtain ⟨i, hi, rfl⟩ := sp_isF_of hw h.1
    obtain ⟨b, hb, rfl⟩ := (i_in (by decide)).mp h.2
    have K1 := K1 i hi rfl b hb rfl
    obtain ⟨g1, g2⟩ := (hw.f hi).kd
    obtain ⟨g3, g4⟩ := (hw.f hi).m
    have f1 : ∀ {x1 x2 x3 x4 : Int32}, fr mV S (wp_u (wp_u (wp_u (wp_u S 91 24 x1) 91 25 x2) 91 26 x3) 91 27 x4) := fr.up (fr.up (fr.up (fr.up fr.rf (Or.inl ⟨rfl, by decide, by decide⟩)) (Or.inl ⟨rfl, by decide, by decide⟩)) (Or.inl ⟨rfl, by decide, by decide⟩)) (Or.inl ⟨rfl, by decide, by decide⟩)
    have V1 : vC (wp_u (wp_u (wp_u (wp_u S 91 24 (nI 0)) 91 25 (nI (sp_kd q i))) 91 26 (nI i)) 91 27 (nI (sp_m q i))) (sp_kd q i) (nI i) (nI (sp_m q i)) 0 := ⟨(wp_un (by omega)).trans ((wp_un (by omega)).trans ((wp_un (by omega)).trans wp_us)), (wp_un (by omega)).trans ((wp_un (by omega)).trans wp_us), (wp_un (by omega)).trans wp_us, wp_us⟩
    generalize sp_kd q i = kd at *
    generalize sp_m q i = m at *
    have K55 : ∀ S1, fr mV S S1 → vC S1 kd (nI i) (nI m) 0 → wp (h_Mo_voice - 1) y_Mo_voice 54 [some (.ref 91), some (.int (nI i)), some (.int (nI b)), some (.int x)] [] S1 Q := by
      intro S1 f V
      have fin : ∀ r : List Int32 × Int32, r = sp_vo (nI i) (nI m) kd b x → Q (some (.int r.2)) (vl S1 0 r.1) := by
        intro r hr
        have hf := f.tr (vl_fr r.1 S1 0)
        have := (vC_l r.1 V).1
        rw [Nat.zero_add] at this
        subst hr
        exact K1 _ (mC_V C hf) hf this (fun j y hj => by have := vl_at _ S1 0 j y hj; rw [Nat.zero_add] at this; exact this)
      clear K1
      rcases (show b = 0 ∨ b = 1 ∨ b = 2 ∨ b = 3 by omega) with rfl | rfl | rfl | rfl
      · refine wp_iload_n d_Mo_voice_54 rfl rfl ?_
        refine wp_ts (pc' := 80) d_Mo_voice_55 (by decide) rfl (by decide) ?_
        refine wp_aload_n d_Mo_voice_80 rfl rfl ?_
        refine wp_aload_n d_Mo_voice_81 rfl rfl ?_
        refine wp_getI d_Mo_voice_82 ow_Mo_voice fl_8_242 (O_91 _) rfl (V.2.1) ?_
        refine wp_iload_n d_Mo_voice_85 rfl rfl ?_
        refine wp_invV d_Mo_voice_86 ow_Mo_voice lk_8_233 (by decide) mi_Mo_hearsIn rfl rfl (Nat.le_of_ble_eq_true rfl) rfl (wp_isC (O_91 _)) (show h_Mo_hearsIn ≤ _ from by decide) (m_hearsIn kd (nI i) (nI m) x g1 _ _ _ V (by have := sp_vh_le (nI i) x kd; omega) ?_)
        refine wp_Ki ?_
        refine wp_reti d_Mo_voice_89 rt_Mo_voice ?_
        exact fin _ rfl
      · refine wp_iload_n d_Mo_voice_54 rfl rfl ?_
        refine wp_ts (pc' := 90) d_Mo_voice_55 (by decide) rfl (by decide) ?_
        refine wp_aload_n d_Mo_voice_90 rfl rfl ?_
        refine wp_aload_n d_Mo_voice_91 rfl rfl ?_
        refine wp_getI d_Mo_voice_92 ow_Mo_voice fl_8_242 (O_91 _) rfl (V.2.1) ?_
        refine wp_iload_n d_Mo_voice_95 rfl rfl ?_
        refine wp_invV d_Mo_voice_96 ow_Mo_voice lk_8_245 (by decide) mi_Mo_saysIn rfl rfl (Nat.le_of_ble_eq_true rfl) rfl (wp_isC (O_91 _)) (show h_Mo_saysIn ≤ _ from by decide) (m_saysIn g1 (nI i) (nI m) x g1 _ _ _ V (by have := sp_vs_le (nI i) (nI m) kd x kd; omega) ?_)
        refine wp_Ki ?_
        refine wp_reti d_Mo_voice_99 rt_Mo_voice ?_
        exact fin _ rfl
      · refine wp_iload_n d_Mo_voice_54 rfl rfl ?_
        refine wp_ts (pc' := 100) d_Mo_voice_55 (by decide) rfl (by decide) ?_
        refine wp_aload_n d_Mo_voice_100 rfl rfl ?_
        refine wp_aload_n d_Mo_voice_101 rfl rfl ?_
        refine wp_getI d_Mo_voice_102 ow_Mo_voice fl_8_242 (O_91 _) rfl (V.2.1) ?_
        refine wp_iload_n d_Mo_voice_105 rfl rfl ?_
        refine wp_invV d_Mo_voice_106 ow_Mo_voice lk_8_239 (by decide) mi_Mo_fearsIn rfl rfl (Nat.le_of_ble_eq_true rfl) rfl (wp_isC (O_91 _)) (show h_Mo_fearsIn ≤ _ from by decide) (m_fearsIn kd (nI i) (nI m) x g1 _ _ _ V (by have := sp_vf_le (nI i) (nI m) x kd; omega) ?_)
        refine wp_Ki ?_
        refine wp_reti d_Mo_voice_109 rt_Mo_voice ?_
        exact fin _ rfl
      · refine wp_iload_n d_Mo_voice_54 rfl rfl ?_
        refine wp_td (pc' := 110) d_Mo_voice_55 ((Or.inr (by decide))) (by decide) ?_
        refine wp_aload_n d_Mo_voice_110 rfl rfl ?_
        refine wp_aload_n d_Mo_voice_111 rfl rfl ?_
        refine wp_getI d_Mo_voice_112 ow_Mo_voice fl_8_242 (O_91 _) rfl (V.2.1) ?_
        refine wp_iload_n d_Mo_voice_115 rfl rfl ?_
        refine wp_invV d_Mo_voice_116 ow_Mo_voice lk_8_248 (by decide) mi_Mo_tellsIn rfl rfl (Nat.le_of_ble_eq_true rfl) rfl (wp_isC (O_91 _)) (show h_Mo_tellsIn ≤ _ from by decide) (m_tellsIn g1 (nI i) (nI m) x g1 _ _ _ V (by have := sp_vt_le (nI i) (nI m) kd x kd; omega) ?_)
        refine wp_Ki ?_
        refine wp_reti d_Mo_voice_119 rt_Mo_voice ?_
        exact fin _ rfl
    refine cl_in ml_Mo_voice rfl rfl ?_
    refine wp_aload_n d_Mo_voice_0 rfl rfl ?_
    refine wp_iload_n d_Mo_voice_1 rfl rfl ?_
    refine wp_invV d_Mo_voice_2 ow_Mo_voice lk_8_93 (by decide) mi_Mo_isField rfl rfl (Nat.le_of_ble_eq_true rfl) rfl (wp_isC (O_91 _)) (show h_Mo_isField ≤ _ from by decide) (m_isField C.1 _ ?_)
    refine wp_Ki ?_
    refine wp_ifB_eq (pc' := 17) d_Mo_voice_5 (by decide) (fun h5 => absurd h.1 h5) (fun h5 => ?_)
    refine wp_iload_n d_Mo_voice_8 rfl rfl ?_
    refine wp_iconst (x := nI 0) d_Mo_voice_9 rfl ?_
    refine wp_iconst (x := nI 3) d_Mo_voice_10 rfl ?_
    refine wp_invS d_Mo_voice_11 ow_Mo_voice lk_8_54 (by decide) mi_Mo_in rfl rfl (Nat.le_of_ble_eq_true rfl) rfl (show h_Mo_in ≤ _ from by decide) (m_in _ _ _ ?_)
    refine wp_Ki ?_
    refine wp_ifB_ne (pc' := 24) d_Mo_voice_14 (by decide) (fun h14 => ?_) (fun h14 => absurd h.2 h14)
    refine wp_aload_n d_Mo_voice_24 rfl rfl ?_
    refine wp_iconst (x := nI 0) d_Mo_voice_25 rfl ?_
    refine wp_put (ty := .int) d_Mo_voice_26 ow_Mo_voice fl_8_224 (by decide +kernel) (by decide +kernel) (O_91 _) rfl ⟨rfl, rfl⟩ ?_
    refine wp_aload_n d_Mo_voice_29 rfl rfl ?_
    refine wp_aload_n d_Mo_voice_30 rfl rfl ?_
    refine wp_iload_n d_Mo_voice_31 rfl rfl ?_
    refine wp_iconst (x := nI 0) d_Mo_voice_32 rfl ?_
    refine wp_invV d_Mo_voice_33 ow_Mo_voice lk_8_72 (by decide) mi_Mo_its rfl rfl (Nat.le_of_ble_eq_true rfl) rfl (wp_isC (O_91 _)) (show h_Mo_its ≤ _ from by decide) (m_its (mC_V C (fr.rf.up (Or.inl ⟨rfl, by decide, by decide⟩))).1 i 0 (by omega) (lf_i g2 ?_))
    refine wp_Ki ?_
    refine wp_put (ty := .int) d_Mo_voice_36 ow_Mo_voice fl_8_242 (by decide +kernel) (by decide +kernel) (O_91 _) rfl ⟨rfl, rfl⟩ ?_
    refine wp_aload_n d_Mo_voice_39 rfl rfl ?_
    refine wp_iload_n d_Mo_voice_40 rfl rfl ?_
    refine wp_put (ty := .int) d_Mo_voice_41 ow_Mo_voice fl_8_230 (by decide +kernel) (by decide +kernel) (O_91 _) rfl ⟨rfl, rfl⟩ ?_
    refine wp_aload_n d_Mo_voice_44 rfl rfl ?_
    refine wp_aload_n d_Mo_voice_45 rfl rfl ?_
    refine wp_iload_n d_Mo_voice_46 rfl rfl ?_
    refine wp_iconst (x := nI 1) d_Mo_voice_47 rfl ?_
    refine wp_invV d_Mo_voice_48 ow_Mo_voice lk_8_72 (by decide) mi_Mo_its rfl rfl (Nat.le_of_ble_eq_true rfl) rfl (wp_isC (O_91 _)) (show h_Mo_its ≤ _ from by decide) (m_its (mC_V C (((fr.rf.up (Or.inl ⟨rfl, by decide, by decide⟩)).up (Or.inl ⟨rfl, by decide, by decide⟩)).up (Or.inl ⟨rfl, by decide, by decide⟩))).1 i 1 (by omega) (lf_i g4 ?_))
    refine wp_Ki ?_
    refine wp_put (ty := .int) d_Mo_voice_51 ow_Mo_voice fl_8_236 (by decide +kernel) (by decide +kernel) (O_91 _) rfl ⟨rfl, rfl⟩ ?_
    exact K55 _ f1 V1
  · refine cl_in ml_Mo_voice rfl rfl ?_
    refine wp_aload_n d_Mo_voice_0 rfl rfl ?_
    refine wp_iload_n d_Mo_voice_1 rfl rfl ?_
    refine wp_invV d_Mo_voice_2 ow_Mo_voice lk_8_93 (by decide) mi_Mo_isField rfl rfl (Nat.le_of_ble_eq_true rfl) rfl (wp_isC (O_91 _)) (show h_Mo_isField ≤ _ from by decide) (m_isField C.1 _ ?_)
    refine wp_Ki ?_
    refine wp_ifB_eq (pc' := 17) d_Mo_voice_5 (by decide) (fun h5 => ?_) (fun h5 => ?_)
    · refine wp_aload_n d_Mo_voice_17 rfl rfl ?_
      refine wp_ldc (v := .int (-1000000001)) d_Mo_voice_18 ow_Mo_voice (by decide +kernel) ?_
      refine wp_invV d_Mo_voice_20 ow_Mo_voice lk_8_59 (by decide) mi_Mo_errs rfl rfl (Nat.le_of_ble_eq_true rfl) rfl (wp_isC (O_91 _)) (show h_Mo_errs ≤ _ from by decide) (m_errs _ 1 (by decide) (by decide) ?_)
      refine wp_Ki ?_
      refine wp_reti d_Mo_voice_23 rt_Mo_voice ?_
      exact K0 h
    · refine wp_iload_n d_Mo_voice_8 rfl rfl ?_
      refine wp_iconst (x := nI 0) d_Mo_voice_9 rfl ?_
      refine wp_iconst (x := nI 3) d_Mo_voice_10 rfl ?_
      refine wp_invS d_Mo_voice_11 ow_Mo_voice lk_8_54 (by decide) mi_Mo_in rfl rfl (Nat.le_of_ble_eq_true rfl) rfl (show h_Mo_in ≤ _ from by decide) (m_in _ _ _ ?_)
      refine wp_Ki ?_
      refine wp_ifB_ne (pc' := 24) d_Mo_voice_14 (by decide) (fun h14 => absurd ⟨h5, h14⟩ h) (fun h14 => ?_)
      refine wp_aload_n d_Mo_voice_17 rfl rfl ?_
      refine wp_ldc (v := .int (-1000000001)) d_Mo_voice_18 ow_Mo_voice (by decide +kernel) ?_
      refine wp_invV d_Mo_voice_20 ow_Mo_voice lk_8_59 (by decide) mi_Mo_errs rfl rfl (Nat.le_of_ble_eq_true rfl) rfl (wp_isC (O_91 _)) (show h_Mo_errs ≤ _ from by decide) (m_errs _ 1 (by decide) (by decide) ?_)
      refine wp_Ki ?_
      refine wp_reti d_Mo_voice_23 rt_Mo_voice ?_
      exact K0 h
end VP
