/-! the class: voice, trace; lands copied -/
def cVv (k _j : Nat) : Prop := k = 79 ∨ k = 80
theorem cvl_fr : ∀ (l : List Int32) (S : wp_S) (t : Nat), fr cVv S (cvl S t l)
  | [], _, _ => fr.rf
  | b :: l, S, t => ((fr.rf.up (Or.inr rfl)).up (Or.inl rfl)).tr (cvl_fr l (cvr S t b) (t + 1))
theorem cvl_lt : ∀ (l : List Int32) (S : wp_S) (t : Nat) (j : Nat), j < t → (cvl S t l).2 80 j = S.2 80 j
  | [], _, _, _, _ => rfl
  | b :: l, S, t, j, h => (cvl_lt l (cvr S t b) (t + 1) j (by omega)).trans ((wp_un (by omega)).trans (wp_un (by omega)))
theorem cvl_at : ∀ (l : List Int32) (S : wp_S) (t : Nat) (j : Nat) (x : Int32), l[j]? = some x → (cvl S t l).2 80 (t + j) = x
  | [], _, _, _, _, h => by cases h
  | b :: l, S, t, 0, x, h => by
    cases h
    exact (cvl_lt l (cvr S t b) (t + 1) t (by omega)).trans ((wp_un (by omega)).trans wp_us)
  | b :: l, S, t, j + 1, x, h => by
    rw [show t + (j + 1) = t + 1 + j by omega]
    exact cvl_at l (cvr S t b) (t + 1) j x h
section CT
variable {S : wp_S} {q : sp_R} {mu : Int32} {Q : Option Value → wp_S → Prop}
theorem CL_V {S' : wp_S} (C : CL S q) (f : fr cVv S S') : CL S' q := C.fr (fun k j y => f.2 k j (fun z => y (by unfold cVv at z; unfold cW; omega)))
theorem c_voice (C : CL S q) (hw : sp_wf q) (v a x : Int32) (K1 : ∀ i, i < sp_n q → v = nI i → ∀ b, b ≤ 3 → a = nI b → ∀ S', CL S' q → fr cVv S S' → S'.2 79 1 = nI (sp_vo (nI i) (nI (sp_m q i)) (sp_kd q i) b x).1.length → (∀ j y, (sp_vo (nI i) (nI (sp_m q i)) (sp_kd q i) b x).1[j]? = some y → S'.2 80 j = y) → Q (some (.int (sp_vo (nI i) (nI (sp_m q i)) (sp_kd q i) b x).2)) S') (K0 : ¬ (sp_isF q v ∧ sp_isW a 3) → Q (some (.int (-1000000001))) (wp_u S 90 1 (S.2 90 1 + nI 1))) : cl h_Fo_voice y_Fo_voice [.ref 0, .int v, .int a, .int x] S Q := by
  have hn := hw.n
  by_cases h : sp_isF q v ∧ sp_isW a 3
  · clear K0
    obtain ⟨i, hi, rfl⟩ := sp_isF_of hw h.1
    obtain ⟨b, hb, rfl⟩ := (i_in (by decide)).mp h.2
    have K1 := K1 i hi rfl b hb rfl
    obtain ⟨g1, g2⟩ := (hw.f hi).kd
    obtain ⟨g3, g4⟩ := (hw.f hi).m
    have ek : S.2 (13 + 2 * i) 2 = nI (sp_kd q i) := (C.f (by omega) (w := 0) (by decide)).trans g2
    have em : S.2 (13 + 2 * i) 3 = nI (sp_m q i) := (C.f (by omega) (w := 1) (by decide)).trans g4
    have en : S.2 (13 + 2 * i) 0 = nI i := C.2.1 i (by omega)
    have f1 : ∀ {x1 x2 x3 x4 : Int32}, fr cVv S (wp_u (wp_u (wp_u (wp_u S 79 1 x1) 79 2 x2) 79 3 x3) 79 4 x4) := fr.up (fr.up (fr.up (fr.up fr.rf (Or.inl rfl)) (Or.inl rfl)) (Or.inl rfl)) (Or.inl rfl)
    have V1 : cV (wp_u (wp_u (wp_u (wp_u S 79 1 (nI 0)) 79 2 (nI (sp_kd q i))) 79 3 (nI (sp_m q i))) 79 4 (nI i)) (sp_kd q i) (nI i) (nI (sp_m q i)) 0 := ⟨(wp_un (by omega)).trans ((wp_un (by omega)).trans ((wp_un (by omega)).trans wp_us)), (wp_un (by omega)).trans ((wp_un (by omega)).trans wp_us), (wp_un (by omega)).trans wp_us, wp_us⟩
    generalize hkd : sp_kd q i = kd at *
    generalize hmm : sp_m q i = m at *
    have fin : ∀ S1 r, fr cVv S S1 → cV S1 kd (nI i) (nI m) 0 → r = sp_vo (nI i) (nI m) kd b x → Q (some (.int r.2)) (cvl S1 0 r.1) := by
      intro S1 r f V hr
      have hf := f.tr (cvl_fr r.1 S1 0)
      have := (cV_l r.1 V).1
      rw [Nat.zero_add] at this
      subst hr
      exact K1 _ (CL_V C hf) hf this (fun j y hj => by have := cvl_at _ S1 0 j y hj; rw [Nat.zero_add] at this; exact this)
    clear K1
    have sp : ∀ (Q : Option Value → wp_S → Prop), (∀ S1 r, fr cVv S S1 → cV S1 kd (nI i) (nI m) 0 → r = sp_vo (nI i) (nI m) kd b x → Q (some (.int r.2)) (cvl S1 0 r.1)) → cl h_Vo_speak y_Vo_speak [.ref 79, .ref (13 + 2 * i), .int (nI b), .int x] S Q := by
      intro Q fin
      have V2 := V1
      generalize hS1 : wp_u (wp_u (wp_u (wp_u S 79 1 (nI 0)) 79 2 (nI kd)) 79 3 (nI m)) 79 4 (nI i) = S1 at V2
      have f2 : fr cVv S S1 := hS1 ▸ f1
      have fin := fun r => fin S1 r f2 V2
      have K29 : wp (h_Vo_speak - 1) y_Vo_speak 29 [some (.ref 79), some (.ref (13 + 2 * i)), some (.int (nI b)), some (.int x)] [] S1 Q := by
        rcases (show b = 0 ∨ b = 1 ∨ b = 2 ∨ b = 3 by omega) with rfl | rfl | rfl | rfl
        · refine wp_aload_n d_Vo_speak_29 rfl rfl ?_
          refine wp_aload_n d_Vo_speak_30 rfl rfl ?_
          refine wp_getI d_Vo_speak_31 ow_Vo_speak fl_6_19 (O_79 _) rfl (V2.2.1) ?_
          refine wp_iload_n d_Vo_speak_34 rfl rfl ?_
          refine wp_iload_n d_Vo_speak_35 rfl rfl ?_
          refine wp_iconst (x := nI 0) d_Vo_speak_36 rfl ?_
          refine wp_invS d_Vo_speak_37 ow_Vo_speak lk_6_35 (by decide) mi_Vo_body rfl rfl (Nat.le_of_ble_eq_true rfl) rfl (show 3 ≤ 26 by decide) (c_hearsB kd (nI i) (nI m) x 0 (by decide) g1 _ _ _ V2 (by have := sp_vh_le (nI i) x kd; omega) ?_)
          refine wp_Ki ?_
          refine wp_reti d_Vo_speak_40 rt_Vo_speak ?_
          exact fin _ rfl
        · refine wp_aload_n d_Vo_speak_29 rfl rfl ?_
          refine wp_aload_n d_Vo_speak_30 rfl rfl ?_
          refine wp_getI d_Vo_speak_31 ow_Vo_speak fl_6_19 (O_79 _) rfl (V2.2.1) ?_
          refine wp_iload_n d_Vo_speak_34 rfl rfl ?_
          refine wp_iload_n d_Vo_speak_35 rfl rfl ?_
          refine wp_iconst (x := nI 0) d_Vo_speak_36 rfl ?_
          refine wp_invS d_Vo_speak_37 ow_Vo_speak lk_6_35 (by decide) mi_Vo_body rfl rfl (Nat.le_of_ble_eq_true rfl) rfl (show 6 ≤ 26 by decide) (c_saysB g1 (nI i) (nI m) x 0 (by decide) g1 _ _ _ V2 (by have := sp_vs_le (nI i) (nI m) kd x kd; omega) ?_)
          refine wp_Ki ?_
          refine wp_reti d_Vo_speak_40 rt_Vo_speak ?_
          exact fin _ rfl
        · refine wp_aload_n d_Vo_speak_29 rfl rfl ?_
          refine wp_aload_n d_Vo_speak_30 rfl rfl ?_
          refine wp_getI d_Vo_speak_31 ow_Vo_speak fl_6_19 (O_79 _) rfl (V2.2.1) ?_
          refine wp_iload_n d_Vo_speak_34 rfl rfl ?_
          refine wp_iload_n d_Vo_speak_35 rfl rfl ?_
          refine wp_iconst (x := nI 0) d_Vo_speak_36 rfl ?_
          refine wp_invS d_Vo_speak_37 ow_Vo_speak lk_6_35 (by decide) mi_Vo_body rfl rfl (Nat.le_of_ble_eq_true rfl) rfl (show 4 ≤ 26 by decide) (c_fearsB kd (nI i) (nI m) x 0 (by decide) g1 _ _ _ V2 (by have := sp_vf_le (nI i) (nI m) x kd; omega) ?_)
          refine wp_Ki ?_
          refine wp_reti d_Vo_speak_40 rt_Vo_speak ?_
          exact fin _ rfl
        · refine wp_aload_n d_Vo_speak_29 rfl rfl ?_
          refine wp_aload_n d_Vo_speak_30 rfl rfl ?_
          refine wp_getI d_Vo_speak_31 ow_Vo_speak fl_6_19 (O_79 _) rfl (V2.2.1) ?_
          refine wp_iload_n d_Vo_speak_34 rfl rfl ?_
          refine wp_iload_n d_Vo_speak_35 rfl rfl ?_
          refine wp_iconst (x := nI 0) d_Vo_speak_36 rfl ?_
          refine wp_invS d_Vo_speak_37 ow_Vo_speak lk_6_35 (by decide) mi_Vo_body rfl rfl (Nat.le_of_ble_eq_true rfl) rfl (show 8 ≤ 26 by decide) (c_tellsB g1 (nI i) (nI m) x 0 (by decide) g1 _ _ _ V2 (by have := sp_vt_le (nI i) (nI m) kd x kd; omega) ?_)
          refine wp_Ki ?_
          refine wp_reti d_Vo_speak_40 rt_Vo_speak ?_
          exact fin _ rfl
      refine cl_in ml_Vo_speak rfl rfl ?_
      refine wp_aload_n d_Vo_speak_0 rfl rfl ?_
      refine wp_iconst (x := nI 0) d_Vo_speak_1 rfl ?_
      refine wp_put (ty := .int) d_Vo_speak_2 ow_Vo_speak fl_6_15 (by decide +kernel) (by decide +kernel) (O_79 _) rfl ⟨rfl, rfl⟩ ?_
      refine wp_aload_n d_Vo_speak_5 rfl rfl ?_
      refine wp_aload_n d_Vo_speak_6 rfl rfl ?_
      refine wp_getI d_Vo_speak_7 ow_Vo_speak fl_6_28 (O_F _ (by omega)) rfl ((wp_un (by omega)).trans ek) ?_
      refine wp_put (ty := .int) d_Vo_speak_10 ow_Vo_speak fl_6_19 (by decide +kernel) (by decide +kernel) (O_79 _) rfl ⟨rfl, rfl⟩ ?_
      refine wp_aload_n d_Vo_speak_13 rfl rfl ?_
      refine wp_aload_n d_Vo_speak_14 rfl rfl ?_
      refine wp_getI d_Vo_speak_15 ow_Vo_speak fl_6_31 (O_F _ (by omega)) rfl ((wp_un (by omega)).trans ((wp_un (by omega)).trans em)) ?_
      refine wp_put (ty := .int) d_Vo_speak_18 ow_Vo_speak fl_6_22 (by decide +kernel) (by decide +kernel) (O_79 _) rfl ⟨rfl, rfl⟩ ?_
      refine wp_aload_n d_Vo_speak_21 rfl rfl ?_
      refine wp_aload_n d_Vo_speak_22 rfl rfl ?_
      refine wp_getI d_Vo_speak_23 ow_Vo_speak fl_6_32 (O_F _ (by omega)) rfl ((wp_un (by omega)).trans ((wp_un (by omega)).trans ((wp_un (by omega)).trans en))) ?_
      refine wp_put (ty := .int) d_Vo_speak_26 ow_Vo_speak fl_6_25 (by decide +kernel) (by decide +kernel) (O_79 _) rfl ⟨rfl, rfl⟩ ?_
      refine wp_eqS (hS1) ?_
      exact K29
    refine cl_in ml_Fo_voice rfl rfl ?_
    refine wp_aload_n d_Fo_voice_0 rfl rfl ?_
    refine wp_getR d_Fo_voice_1 ow_Fo_voice fl_7_10 (O_0 _) rfl ?_
    refine wp_iload_n d_Fo_voice_4 rfl rfl ?_
    refine wp_invV d_Fo_voice_5 ow_Fo_voice lk_7_90 (by decide) mi_La_has rfl rfl (Nat.le_of_ble_eq_true rfl) rfl (wp_isC (O_1 _)) (show h_La_has ≤ _ from by decide) (c_has C _ ?_)
    refine wp_Ki ?_
    refine wp_ifB_eq (pc' := 20) d_Fo_voice_8 (by decide) (fun h8 => absurd h.1 h8) (fun h8 => ?_)
    refine wp_iload_n d_Fo_voice_11 rfl rfl ?_
    refine wp_iconst (x := nI 0) d_Fo_voice_12 rfl ?_
    refine wp_iconst (x := nI 3) d_Fo_voice_13 rfl ?_
    refine wp_invS d_Fo_voice_14 ow_Fo_voice lk_7_66 (by decide) mi_Fo_isWithin rfl rfl (Nat.le_of_ble_eq_true rfl) rfl (show h_Fo_isWithin ≤ _ from by decide) (c_isWithin _ _ _ ?_)
    refine wp_Ki ?_
    refine wp_ifB_ne (pc' := 26) d_Fo_voice_17 (by decide) (fun h17 => ?_) (fun h17 => absurd h.2 h17)
    refine wp_aload_n d_Fo_voice_26 rfl rfl ?_
    refine wp_getR d_Fo_voice_27 ow_Fo_voice fl_7_44 (O_0 _) rfl ?_
    refine wp_aload_n d_Fo_voice_30 rfl rfl ?_
    refine wp_getR d_Fo_voice_31 ow_Fo_voice fl_7_10 (O_0 _) rfl ?_
    refine wp_getR d_Fo_voice_34 ow_Fo_voice fl_7_77 (O_1 _) rfl ?_
    refine wp_iload_n d_Fo_voice_37 rfl rfl ?_
    refine wp_aaload d_Fo_voice_38 rfl (f_F (by omega)) (by decide) ?_
    refine wp_iload_n d_Fo_voice_39 rfl rfl ?_
    refine wp_iload_n d_Fo_voice_40 rfl rfl ?_
    refine wp_invV d_Fo_voice_41 ow_Fo_voice lk_7_240 (by decide) mi_Vo_speak rfl rfl (Nat.le_of_ble_eq_true rfl) rfl (wp_isC (O_79 _)) (show h_Vo_speak ≤ _ from by decide) (sp _ (fun S1 r f V hr => ?_))
    refine wp_Ki ?_
    refine wp_reti d_Fo_voice_44 rt_Fo_voice ?_
    exact fin S1 r f V hr
  · refine cl_in ml_Fo_voice rfl rfl ?_
    refine wp_aload_n d_Fo_voice_0 rfl rfl ?_
    refine wp_getR d_Fo_voice_1 ow_Fo_voice fl_7_10 (O_0 _) rfl ?_
    refine wp_iload_n d_Fo_voice_4 rfl rfl ?_
    refine wp_invV d_Fo_voice_5 ow_Fo_voice lk_7_90 (by decide) mi_La_has rfl rfl (Nat.le_of_ble_eq_true rfl) rfl (wp_isC (O_1 _)) (show h_La_has ≤ _ from by decide) (c_has C _ ?_)
    refine wp_Ki ?_
    refine wp_ifB_eq (pc' := 20) d_Fo_voice_8 (by decide) (fun h8 => ?_) (fun h8 => ?_)
    · refine wp_aload_n d_Fo_voice_20 rfl rfl ?_
      refine wp_iconst (x := nI 1) d_Fo_voice_21 rfl ?_
      refine wp_invV d_Fo_voice_22 ow_Fo_voice lk_7_70 (by decide) mi_Fo_error rfl rfl (Nat.le_of_ble_eq_true rfl) rfl (wp_isC (O_0 _)) (show h_Fo_error ≤ _ from by decide) (c_error 1 (by decide) (by decide) ?_)
      refine wp_Ki ?_
      refine wp_reti d_Fo_voice_25 rt_Fo_voice ?_
      exact K0 h
    · refine wp_iload_n d_Fo_voice_11 rfl rfl ?_
      refine wp_iconst (x := nI 0) d_Fo_voice_12 rfl ?_
      refine wp_iconst (x := nI 3) d_Fo_voice_13 rfl ?_
      refine wp_invS d_Fo_voice_14 ow_Fo_voice lk_7_66 (by decide) mi_Fo_isWithin rfl rfl (Nat.le_of_ble_eq_true rfl) rfl (show h_Fo_isWithin ≤ _ from by decide) (c_isWithin _ _ _ ?_)
      refine wp_Ki ?_
      refine wp_ifB_ne (pc' := 26) d_Fo_voice_17 (by decide) (fun h17 => absurd ⟨h8, h17⟩ h) (fun h17 => ?_)
      refine wp_aload_n d_Fo_voice_20 rfl rfl ?_
      refine wp_iconst (x := nI 1) d_Fo_voice_21 rfl ?_
      refine wp_invV d_Fo_voice_22 ow_Fo_voice lk_7_70 (by decide) mi_Fo_error rfl rfl (Nat.le_of_ble_eq_true rfl) rfl (wp_isC (O_0 _)) (show h_Fo_error ≤ _ from by decide) (c_error 1 (by decide) (by decide) ?_)
      refine wp_Ki ?_
      refine wp_reti d_Fo_voice_25 rt_Fo_voice ?_
      exact K0 h
theorem c_trace (C : CL S q) {n : Nat} (hn : n ≤ 40) (hm : S.2 79 1 = nI n) (v : Int32) (K : cQ S (op_trace q (S.2 80) (S.2 79 1) v) Q) : cl h_Fo_trace y_Fo_trace [.ref 0, .int v] S Q := by
  unfold op_trace at K
  rw [hm] at K
  by_cases h : 0 ≤ v ∧ v ≤ nI n - nI 1
  · rw [sp_if_t h] at K
    obtain ⟨i, hi, rfl⟩ := (i_fld (by omega)).mp h
    rw [nI_clamp (by omega)] at K
    refine cl_in ml_Fo_trace rfl rfl ?_
    refine wp_iload_n d_Fo_trace_0 rfl rfl ?_
    refine wp_iconst (x := nI 0) d_Fo_trace_1 rfl ?_
    refine wp_aload_n d_Fo_trace_2 rfl rfl ?_
    refine wp_getR d_Fo_trace_3 ow_Fo_trace fl_7_44 (O_0 _) rfl ?_
    refine wp_getI d_Fo_trace_6 ow_Fo_trace fl_7_244 (O_79 _) rfl (hm) ?_
    refine wp_iconst (x := nI 1) d_Fo_trace_9 rfl ?_
    refine wp_isub d_Fo_trace_10 rfl ?_
    refine wp_invS d_Fo_trace_11 ow_Fo_trace lk_7_66 (by decide) mi_Fo_isWithin rfl rfl (Nat.le_of_ble_eq_true rfl) rfl (show h_Fo_isWithin ≤ _ from by decide) (c_isWithin _ _ _ ?_)
    refine wp_Ki ?_
    refine wp_ifB_ne (pc' := 23) d_Fo_trace_14 (by decide) (fun h14 => ?_) (fun h14 => absurd h h14)
    refine wp_aload_n d_Fo_trace_23 rfl rfl ?_
    refine wp_getR d_Fo_trace_24 ow_Fo_trace fl_7_44 (O_0 _) rfl ?_
    refine wp_getR d_Fo_trace_27 ow_Fo_trace fl_7_247 (O_79 _) rfl ?_
    refine wp_iload_n d_Fo_trace_30 rfl rfl ?_
    refine wp_iaload d_Fo_trace_31 (A_80 _) (by omega) (by decide) (rfl) ?_
    refine wp_reti d_Fo_trace_32 rt_Fo_trace ?_
    exact cQ_ok K C fr.rf
  · rw [sp_if_f h] at K
    refine cl_in ml_Fo_trace rfl rfl ?_
    refine wp_iload_n d_Fo_trace_0 rfl rfl ?_
    refine wp_iconst (x := nI 0) d_Fo_trace_1 rfl ?_
    refine wp_aload_n d_Fo_trace_2 rfl rfl ?_
    refine wp_getR d_Fo_trace_3 ow_Fo_trace fl_7_44 (O_0 _) rfl ?_
    refine wp_getI d_Fo_trace_6 ow_Fo_trace fl_7_244 (O_79 _) rfl (hm) ?_
    refine wp_iconst (x := nI 1) d_Fo_trace_9 rfl ?_
    refine wp_isub d_Fo_trace_10 rfl ?_
    refine wp_invS d_Fo_trace_11 ow_Fo_trace lk_7_66 (by decide) mi_Fo_isWithin rfl rfl (Nat.le_of_ble_eq_true rfl) rfl (show h_Fo_isWithin ≤ _ from by decide) (c_isWithin _ _ _ ?_)
    refine wp_Ki ?_
    refine wp_ifB_ne (pc' := 23) d_Fo_trace_14 (by decide) (fun h14 => absurd h14 h) (fun h14 => ?_)
    refine wp_aload_n d_Fo_trace_17 rfl rfl ?_
    refine wp_iconst (x := nI 2) d_Fo_trace_18 rfl ?_
    refine wp_invV d_Fo_trace_19 ow_Fo_trace lk_7_70 (by decide) mi_Fo_error rfl rfl (Nat.le_of_ble_eq_true rfl) rfl (wp_isC (O_0 _)) (show h_Fo_error ≤ _ from by decide) (c_error 2 (by decide) (by decide) ?_)
    refine wp_Ki ?_
    refine wp_reti d_Fo_trace_22 rt_Fo_trace ?_
    exact cQ_er (e := 2) K (by decide) C fr.rf
def sft (A : Nat) (S : wp_S) : wp_S := (S.1, fun k j => S.2 (k + A) j)
theorem CL_mk {S : wp_S} {q : sp_R} (h0 : S.2 1 7 = q 0) (h8 : S.2 1 8 = q 8) (h1 : S.2 1 9 = q 1) (h2 : S.2 1 10 = q 2) (h3 : S.2 1 11 = q 3) (h4 : S.2 1 12 = q 4) (h5 : S.2 1 13 = q 5) (h9 : ∀ o, o < 4 → S.2 3 o = q (9 + o)) (hf : ∀ i, i < sp_n q → ∀ w, w < 6 → S.2 (13 + 2 * i) (w + 2) = q (13 + 10 * i + w)) (ht : ∀ i, i < sp_n q → ∀ o, o < 4 → S.2 (14 + 2 * i) o = q (13 + 10 * i + (6 + o))) (hb : ∀ k, k < 50 → S.2 10 k = q (113 + k)) (hw : ∀ k, k < 20 → S.2 11 k = q (163 + k)) (hn : ∀ i, i < 10 → S.2 (13 + 2 * i) 0 = nI i) (hl : ∀ u, u < 2 → cLw S q u) (h10 : sp_n q ≤ 10) : CL S q := by
  refine ⟨⟨fun j g1 g2 g3 g4 => ?_, h10⟩, hn, hl⟩
  unfold sp_us1 at g4
  by_cases a : j < 13
  · by_cases b : 9 ≤ j
    · obtain ⟨o, rfl⟩ : ∃ o, j = 9 + o := ⟨j - 9, by omega⟩
      rw [cc_9 (by omega)]
      exact h9 o (by omega)
    · rcases (show j = 0 ∨ j = 1 ∨ j = 2 ∨ j = 3 ∨ j = 4 ∨ j = 5 ∨ j = 8 by omega) with rfl | rfl | rfl | rfl | rfl | rfl | rfl
      · exact h0
      · exact h1
      · exact h2
      · exact h3
      · exact h4
      · exact h5
      · exact h8
  · by_cases b : j < 113
    · obtain ⟨i, w, hi, hww, rfl⟩ : ∃ i w, i < 10 ∧ w < 10 ∧ j = 13 + 10 * i + w := ⟨(j - 13) / 10, (j - 13) % 10, by omega, by omega, by omega⟩
      by_cases c : w < 6
      · rw [cc_f hi c]
        exact hf i (by omega) w c
      · obtain ⟨o, rfl⟩ : ∃ o, w = 6 + o := ⟨w - 6, by omega⟩
        rw [cc_t hi (by omega)]
        exact ht i (by omega) o (by omega)
    · by_cases c : j < 163
      · obtain ⟨k, rfl⟩ : ∃ k, j = 113 + k := ⟨j - 113, by omega⟩
        rw [cc_b (by omega)]
        exact hb k (by omega)
      · obtain ⟨k, rfl⟩ : ∃ k, j = 163 + k := ⟨j - 163, by omega⟩
        rw [cc_w]
        exact hw k (by omega)
theorem sp_code_pos {u : Nat} (hu : u < 2) (h : sp_tw q u) : 1 ≤ (sp_code q u).length := by
  obtain ⟨v, hv⟩ := sp_code_one hu h 0 0 0
  have := hv []
  cases hc : sp_code q u with
  | nil => rw [hc] at this; cases this
  | cons x l => rw [List.length_cons]; omega
theorem c_takeOver {o c st xx : Nat} (ho : ∀ S, wp_O S o 2 [some (.ref 10000), some (.ref c), some (.ref st), none] ∨ wp_O S o 2 [some (.ref 10001), some (.ref c), some (.ref st), none]) (hc : ∀ S, wp_A S c 50) (hx : ∀ S, wp_A S xx 50) {n : Nat} (h1 : 1 ≤ n) (h2 : n ≤ 50) (K : Q none (wp_u (wp_cp S xx c 0 0 n) o 3 (nI n))) : cl h_Lw_takeOver y_Lw_takeOver [.ref o, .ref xx, .int (nI n)] S Q := by
  have e1 : (if nI 50 < nI n then nI 50 else nI n) = nI n := if_neg (fun y => by have := (nI_ltI (by decide) (by omega)).mp y; omega)
  rcases ho S with hS | hS
  · have ho : ∀ S', S'.1 = S.1 → wp_O S' o 2 [some (.ref 10000), some (.ref c), some (.ref st), none] := fun S' e => ⟨hS.1, hS.2.1, by rw [e]; exact hS.2.2⟩
    refine cl_in ml_Lw_takeOver rfl rfl ?_
    refine wp_iload_n d_Lw_takeOver_0 rfl rfl ?_
    refine wp_aload_n d_Lw_takeOver_1 rfl rfl ?_
    refine wp_arraylength d_Lw_takeOver_2 (wp_alA (hx _)) ?_
    refine wp_aload_n d_Lw_takeOver_3 rfl rfl ?_
    refine wp_getR d_Lw_takeOver_4 ow_Lw_takeOver fl_2_9 (ho _ rfl) rfl ?_
    refine wp_arraylength d_Lw_takeOver_7 (wp_alA (hc _)) ?_
    refine wp_mmin d_Lw_takeOver_8 ow_Lw_takeOver lk_2_26 rfl ((if_neg (by decide) : (if nI 50 < nI 50 then nI 50 else nI 50) = nI 50)) ?_
    refine wp_mmin d_Lw_takeOver_11 ow_Lw_takeOver lk_2_26 rfl (e1) ?_
    refine wp_iston3 d_Lw_takeOver_14 rfl ?_
    refine wp_iload_n d_Lw_takeOver_15 rfl rfl ?_
    refine wp_ifN_le (pc' := 35) d_Lw_takeOver_16 (by decide) (by omega) (fun h16 => absurd h16 (by omega)) (fun h16 => ?_)
    refine wp_aload_n d_Lw_takeOver_19 rfl rfl ?_
    refine wp_iconst (x := nI 0) d_Lw_takeOver_20 rfl ?_
    refine wp_aload_n d_Lw_takeOver_21 rfl rfl ?_
    refine wp_getR d_Lw_takeOver_22 ow_Lw_takeOver fl_2_9 (ho _ rfl) rfl ?_
    refine wp_iconst (x := nI 0) d_Lw_takeOver_25 rfl ?_
    refine wp_iload_n d_Lw_takeOver_26 rfl rfl ?_
    refine wp_acp d_Lw_takeOver_27 ow_Lw_takeOver lk_2_32 rfl (hx _) (hc _) (by omega) (by omega) (by decide) (by decide) ?_
    refine wp_aload_n d_Lw_takeOver_30 rfl rfl ?_
    refine wp_iload_n d_Lw_takeOver_31 rfl rfl ?_
    refine wp_put (ty := .int) d_Lw_takeOver_32 ow_Lw_takeOver fl_2_18 (by decide +kernel) (by decide +kernel) (ho _ rfl) rfl ⟨rfl, rfl⟩ ?_
    refine wp_return d_Lw_takeOver_35 rt_Lw_takeOver ?_
    exact K
  · have ho : ∀ S', S'.1 = S.1 → wp_O S' o 2 [some (.ref 10001), some (.ref c), some (.ref st), none] := fun S' e => ⟨hS.1, hS.2.1, by rw [e]; exact hS.2.2⟩
    refine cl_in ml_Lw_takeOver rfl rfl ?_
    refine wp_iload_n d_Lw_takeOver_0 rfl rfl ?_
    refine wp_aload_n d_Lw_takeOver_1 rfl rfl ?_
    refine wp_arraylength d_Lw_takeOver_2 (wp_alA (hx _)) ?_
    refine wp_aload_n d_Lw_takeOver_3 rfl rfl ?_
    refine wp_getR d_Lw_takeOver_4 ow_Lw_takeOver fl_2_9 (ho _ rfl) rfl ?_
    refine wp_arraylength d_Lw_takeOver_7 (wp_alA (hc _)) ?_
    refine wp_mmin d_Lw_takeOver_8 ow_Lw_takeOver lk_2_26 rfl ((if_neg (by decide) : (if nI 50 < nI 50 then nI 50 else nI 50) = nI 50)) ?_
    refine wp_mmin d_Lw_takeOver_11 ow_Lw_takeOver lk_2_26 rfl (e1) ?_
    refine wp_iston3 d_Lw_takeOver_14 rfl ?_
    refine wp_iload_n d_Lw_takeOver_15 rfl rfl ?_
    refine wp_ifN_le (pc' := 35) d_Lw_takeOver_16 (by decide) (by omega) (fun h16 => absurd h16 (by omega)) (fun h16 => ?_)
    refine wp_aload_n d_Lw_takeOver_19 rfl rfl ?_
    refine wp_iconst (x := nI 0) d_Lw_takeOver_20 rfl ?_
    refine wp_aload_n d_Lw_takeOver_21 rfl rfl ?_
    refine wp_getR d_Lw_takeOver_22 ow_Lw_takeOver fl_2_9 (ho _ rfl) rfl ?_
    refine wp_iconst (x := nI 0) d_Lw_takeOver_25 rfl ?_
    refine wp_iload_n d_Lw_takeOver_26 rfl rfl ?_
    refine wp_acp d_Lw_takeOver_27 ow_Lw_takeOver lk_2_32 rfl (hx _) (hc _) (by omega) (by omega) (by decide) (by decide) ?_
    refine wp_aload_n d_Lw_takeOver_30 rfl rfl ?_
    refine wp_iload_n d_Lw_takeOver_31 rfl rfl ?_
    refine wp_put (ty := .int) d_Lw_takeOver_32 ow_Lw_takeOver fl_2_18 (by decide +kernel) (by decide +kernel) (ho _ rfl) rfl ⟨rfl, rfl⟩ ?_
    refine wp_return d_Lw_takeOver_35 rt_Lw_takeOver ?_
    exact K
/-- cells that a copying changes -/
def cCp0 (k _j : Nat) : Prop := 1 ≤ k ∧ k ≤ 32
theorem CL_src32 {S' : wp_S} (C : CL (sft 32 S) q) (f : fr cCp0 S S') : CL (sft 32 S') q := C.fr (fun k j y => f.2 (k + 32) j (fun z => by unfold cCp0 at z; unfold cW at y; omega))
theorem c_lc_loop0 (C : CL (sft 32 S) q) (hN : ∀ i, i < 10 → S.2 (13 + 2 * i) 0 = nI i) (K : ∀ S', fr cCp0 S S' → (∀ i, i < sp_n q → ∀ w, w < 6 → S'.2 (13 + 2 * i) (w + 2) = q (13 + 10 * i + w)) → (∀ i, i < sp_n q → ∀ o, o < 4 → S'.2 (14 + 2 * i) o = q (13 + 10 * i + (6 + o))) → (∀ i, i < 10 → S'.2 (13 + 2 * i) 0 = nI i) → wp (h_La_copyFrom - 1) y_La_copyFrom 29 [some (.ref 1), some (.ref 33), some (.int (nI 10))] [] S' Q) : ∀ m k (S' : wp_S), k + m = 10 → fr cCp0 S S' → (∀ i, i < k → i < sp_n q → ∀ w, w < 6 → S'.2 (13 + 2 * i) (w + 2) = q (13 + 10 * i + w)) → (∀ i, i < k → i < sp_n q → ∀ o, o < 4 → S'.2 (14 + 2 * i) o = q (13 + 10 * i + (6 + o))) → (∀ i, i < 10 → S'.2 (13 + 2 * i) 0 = nI i) → wp (h_La_copyFrom - 1) y_La_copyFrom 2 [some (.ref 1), some (.ref 33), some (.int (nI k))] [] S' Q := by
  have h10 := C.le
  intro m
  induction m with
  | zero =>
    intro k S' hk f h1 h2 h3
    obtain rfl : k = 10 := by omega
    refine wp_iload_n d_La_copyFrom_2 rfl rfl ?_
    refine wp_bipush (x := nI 10) d_La_copyFrom_3 (by decide) ?_
    refine wp_icN_ge (pc' := 29) d_La_copyFrom_5 (by decide) (by omega) (by omega) (fun _ => ?_) (fun q => absurd q (by decide))
    exact K S' f (fun i hi => h1 i (by omega) hi) (fun i hi => h2 i (by omega) hi) h3
  | succ m ih =>
    intro k S' hk f h1 h2 h3
    have hk10 : k < 10 := by omega
    have C' := CL_src32 C f
    have s1 : k < sp_n q → ∀ w, w < 6 → S'.2 (45 + 2 * k) (w + 2) = q (13 + 10 * k + w) := fun hkn w hw => by
      have := C'.f hkn hw
      rw [show (sft 32 S').2 (13 + 2 * k) (w + 2) = S'.2 (13 + 2 * k + 32) (w + 2) from rfl, show 13 + 2 * k + 32 = 45 + 2 * k by omega] at this
      exact this
    have s2 : k < sp_n q → ∀ o, o < 4 → S'.2 (46 + 2 * k) o = q (13 + 10 * k + (6 + o)) := fun hkn o ho => by
      have := C'.t hkn ho
      rw [show (sft 32 S').2 (14 + 2 * k) o = S'.2 (14 + 2 * k + 32) o from rfl, show 14 + 2 * k + 32 = 46 + 2 * k by omega] at this
      exact this
    refine wp_iload_n d_La_copyFrom_2 rfl rfl ?_
    refine wp_bipush (x := nI 10) d_La_copyFrom_3 (by decide) ?_
    refine wp_icN_ge (pc' := 29) d_La_copyFrom_5 (by decide) (by omega) (by omega) (fun h5 => absurd h5 (by omega)) (fun h5 => ?_)
    refine wp_aload_n d_La_copyFrom_8 rfl rfl ?_
    refine wp_getR d_La_copyFrom_9 ow_La_copyFrom fl_1_11 (O_1 _) rfl ?_
    refine wp_iload_n d_La_copyFrom_12 rfl rfl ?_
    refine wp_aaload d_La_copyFrom_13 rfl (f_F (by omega)) (by decide) ?_
    refine wp_aload_n d_La_copyFrom_14 rfl rfl ?_
    refine wp_getR d_La_copyFrom_15 ow_La_copyFrom fl_1_11 (O_33 _) rfl ?_
    refine wp_iload_n d_La_copyFrom_18 rfl rfl ?_
    refine wp_aaload d_La_copyFrom_19 rfl (f_H (by omega)) (by decide) ?_
    refine wp_invV d_La_copyFrom_20 ow_La_copyFrom lk_1_77 (by decide) mi_Fi_copyFrom rfl rfl (Nat.le_of_ble_eq_true rfl) rfl (wp_isC (O_F _ (by omega))) (show h_Fi_copyFrom ≤ _ from by decide) (c_fcopy (fun S => O_F S hk10) (fun S => O_H S hk10) (fun S => A_G S hk10) (fun S => A_J S hk10) (by omega) (by omega) (by omega) ?_)
    refine wp_Kv ?_
    refine wp_iinc2 d_La_copyFrom_23 rfl (nI_add _ 1) ?_
    refine wp_goto (pc' := 2) d_La_copyFrom_26 (by decide) ?_
    refine ih (k + 1) _ (by omega) (f.tr (fcp_fr (fun j => ⟨⟨by omega, by omega⟩, ⟨by omega, by omega⟩⟩))) (fun i hi hin w hw => ?_) (fun i hi hin o ho => ?_) (fun i hi => ?_)
    · show (if 13 + 2 * i = 13 + 2 * k ∧ 2 ≤ w + 2 ∧ w + 2 ≤ 7 then S'.2 (45 + 2 * k) (w + 2) else if 13 + 2 * i = 14 + 2 * k ∧ w + 2 < 4 then S'.2 (46 + 2 * k) (w + 2) else S'.2 (13 + 2 * i) (w + 2)) = _
      by_cases hik : i = k
      · rw [if_pos ⟨by rw [hik], by omega, by omega⟩, hik]
        exact s1 (by omega) w hw
      · rw [if_neg (by omega), if_neg (by omega)]
        exact h1 i (by omega) hin w hw
    · show (if 14 + 2 * i = 13 + 2 * k ∧ 2 ≤ o ∧ o ≤ 7 then S'.2 (45 + 2 * k) o else if 14 + 2 * i = 14 + 2 * k ∧ o < 4 then S'.2 (46 + 2 * k) o else S'.2 (14 + 2 * i) o) = _
      by_cases hik : i = k
      · rw [if_neg (by omega), if_pos ⟨by rw [hik], ho⟩, hik]
        exact s2 (by omega) o ho
      · rw [if_neg (by omega), if_neg (by omega)]
        exact h2 i (by omega) hin o ho
    · show (if 13 + 2 * i = 13 + 2 * k ∧ 2 ≤ 0 ∧ 0 ≤ 7 then S'.2 (45 + 2 * k) 0 else if 13 + 2 * i = 14 + 2 * k ∧ 0 < 4 then S'.2 (46 + 2 * k) 0 else S'.2 (13 + 2 * i) 0) = _
      rw [if_neg (by omega), if_neg (by omega)]
      exact h3 i hi
theorem c_lcopy0 (C : CL (sft 32 S) q) (hN : ∀ i, i < 10 → S.2 (13 + 2 * i) 0 = nI i) (K : ∀ S', CL (sft 0 S') q → fr cCp0 S S' → Q none S') : cl h_La_copyFrom y_La_copyFrom [.ref 1, .ref 33] S Q := by
  have h10 := C.le
  have hp0 := sp_code_pos (by decide) (C.2.2 0 (by decide)).1
  have hp1 := sp_code_pos (by decide) (C.2.2 1 (by decide)).1
  have hl0 := (C.2.2 0 (by decide)).2.1
  have hl1 := (C.2.2 1 (by decide)).2.1
  refine cl_in ml_La_copyFrom rfl rfl ?_
  refine wp_iconst (x := nI 0) d_La_copyFrom_0 rfl ?_
  refine wp_iston2 d_La_copyFrom_1 rfl ?_
  refine c_lc_loop0 C hN (fun S1 f1 a1 a2 a3 => ?_) 10 0 S rfl fr.rf (fun i hi => by omega) (fun i hi => by omega) hN
  have R1 := CL_src32 C f1
  refine wp_aload_n d_La_copyFrom_29 rfl rfl ?_
  refine wp_getR d_La_copyFrom_30 ow_La_copyFrom fl_1_28 (O_1 _) rfl ?_
  refine wp_aload_n d_La_copyFrom_33 rfl rfl ?_
  refine wp_getR d_La_copyFrom_34 ow_La_copyFrom fl_1_28 (O_33 _) rfl ?_
  refine wp_getR d_La_copyFrom_37 ow_La_copyFrom fl_1_81 (O_36 _) rfl ?_
  refine wp_aload_n d_La_copyFrom_40 rfl rfl ?_
  refine wp_getR d_La_copyFrom_41 ow_La_copyFrom fl_1_28 (O_33 _) rfl ?_
  refine wp_getI d_La_copyFrom_44 ow_La_copyFrom fl_1_84 (O_36 _) rfl ((R1.2.2 0 (by decide)).2.2.1) ?_
  refine wp_invV d_La_copyFrom_47 ow_La_copyFrom lk_1_87 (by decide) mi_Lw_takeOver rfl rfl (Nat.le_of_ble_eq_true rfl) rfl (wp_isC (O_4 _)) (show h_Lw_takeOver ≤ _ from by decide) (c_takeOver (st := 6) (fun S => Or.inl (O_4 S)) A_5 A_37 hp0 hl0 ?_)
  refine wp_Kv ?_
  skip
  have f2 : fr cCp0 S (wp_u (wp_cp S1 37 5 0 0 (sp_code q 0).length) 4 3 (nI (sp_code q 0).length)) := (f1.cp (fun j => ⟨by decide, by decide⟩)).up ⟨by decide, by decide⟩
  have g2 : fr (fun k _ => k = 4 ∨ k = 5) S1 (wp_u (wp_cp S1 37 5 0 0 (sp_code q 0).length) 4 3 (nI (sp_code q 0).length)) := (fr.rf.cp (fun j => Or.inr rfl)).up (Or.inl rfl)
  have b1 : (wp_u (wp_cp S1 37 5 0 0 (sp_code q 0).length) 4 3 (nI (sp_code q 0).length)).2 4 3 = nI (sp_code q 0).length := wp_us
  have b2 : ∀ k x, (sp_code q 0)[k]? = some x → (wp_u (wp_cp S1 37 5 0 0 (sp_code q 0).length) 4 3 (nI (sp_code q 0).length)).2 5 k = x := fun k x hk => by
    have hkl : k < (sp_code q 0).length := (List.getElem?_eq_some_iff.mp hk).1
    refine (wp_un (by omega)).trans ?_
    rw [wp_cp2, if_pos ⟨rfl, Nat.zero_le _, by omega⟩, show 0 + (k - 0) = k by omega]
    exact (R1.2.2 0 (by decide)).2.2.2 k x hk
  generalize wp_u (wp_cp S1 37 5 0 0 (sp_code q 0).length) 4 3 (nI (sp_code q 0).length) = S2 at f2 g2 b1 b2 ⊢
  have R2 := CL_src32 C f2
  refine wp_aload_n d_La_copyFrom_50 rfl rfl ?_
  refine wp_getR d_La_copyFrom_51 ow_La_copyFrom fl_1_34 (O_1 _) rfl ?_
  refine wp_aload_n d_La_copyFrom_54 rfl rfl ?_
  refine wp_getR d_La_copyFrom_55 ow_La_copyFrom fl_1_34 (O_33 _) rfl ?_
  refine wp_getR d_La_copyFrom_58 ow_La_copyFrom fl_1_81 (O_39 _) rfl ?_
  refine wp_aload_n d_La_copyFrom_61 rfl rfl ?_
  refine wp_getR d_La_copyFrom_62 ow_La_copyFrom fl_1_34 (O_33 _) rfl ?_
  refine wp_getI d_La_copyFrom_65 ow_La_copyFrom fl_1_84 (O_39 _) rfl ((R2.2.2 1 (by decide)).2.2.1) ?_
  refine wp_invV d_La_copyFrom_68 ow_La_copyFrom lk_1_87 (by decide) mi_Lw_takeOver rfl rfl (Nat.le_of_ble_eq_true rfl) rfl (wp_isC (O_7 _)) (show h_Lw_takeOver ≤ _ from by decide) (c_takeOver (st := 9) (fun S => Or.inr (O_7 S)) A_8 A_40 hp1 hl1 ?_)
  refine wp_Kv ?_
  skip
  have f3 : fr cCp0 S (wp_u (wp_cp S2 40 8 0 0 (sp_code q 1).length) 7 3 (nI (sp_code q 1).length)) := (f2.cp (fun j => ⟨by decide, by decide⟩)).up ⟨by decide, by decide⟩
  have g3 : fr (fun k _ => k = 7 ∨ k = 8) S2 (wp_u (wp_cp S2 40 8 0 0 (sp_code q 1).length) 7 3 (nI (sp_code q 1).length)) := (fr.rf.cp (fun j => Or.inr rfl)).up (Or.inl rfl)
  have c1 : (wp_u (wp_cp S2 40 8 0 0 (sp_code q 1).length) 7 3 (nI (sp_code q 1).length)).2 7 3 = nI (sp_code q 1).length := wp_us
  have c2 : ∀ k x, (sp_code q 1)[k]? = some x → (wp_u (wp_cp S2 40 8 0 0 (sp_code q 1).length) 7 3 (nI (sp_code q 1).length)).2 8 k = x := fun k x hk => by
    have hkl : k < (sp_code q 1).length := (List.getElem?_eq_some_iff.mp hk).1
    refine (wp_un (by omega)).trans ?_
    rw [wp_cp2, if_pos ⟨rfl, Nat.zero_le _, by omega⟩, show 0 + (k - 0) = k by omega]
    exact (R2.2.2 1 (by decide)).2.2.2 k x hk
  generalize wp_u (wp_cp S2 40 8 0 0 (sp_code q 1).length) 7 3 (nI (sp_code q 1).length) = S3 at f3 g3 c1 c2 ⊢
  have R3 := CL_src32 C f3
  have k3 : fr (fun k _ => k = 4 ∨ k = 5 ∨ k = 7 ∨ k = 8) S1 S3 := (g2.mono (fun _ _ y => by omega)).tr (g3.mono (fun _ _ y => by omega))
  have f4 : fr cCp0 S (wp_cp (wp_cp (wp_cp S3 35 3 0 0 4) 42 10 0 0 50) 43 11 0 0 20) := ((f3.cp (fun j => ⟨by decide, by decide⟩)).cp (fun j => ⟨by decide, by decide⟩)).cp (fun j => ⟨by decide, by decide⟩)
  have g4 : fr (fun k _ => k = 3 ∨ k = 10 ∨ k = 11) S3 (wp_cp (wp_cp (wp_cp S3 35 3 0 0 4) 42 10 0 0 50) 43 11 0 0 20) := ((fr.rf.cp (fun j => Or.inl rfl)).cp (fun j => Or.inr (Or.inl rfl))).cp (fun j => Or.inr (Or.inr rfl))
  have d1 : ∀ o, o < 4 → (wp_cp (wp_cp (wp_cp S3 35 3 0 0 4) 42 10 0 0 50) 43 11 0 0 20).2 3 o = q (9 + o) := fun o ho => by
    rw [wp_cp2, if_neg (by omega), wp_cp2, if_neg (by omega), wp_cp2, if_pos ⟨rfl, Nat.zero_le _, by omega⟩, show 0 + (o - 0) = o by omega]
    exact R3.q9 ho
  have d2 : ∀ k, k < 50 → (wp_cp (wp_cp (wp_cp S3 35 3 0 0 4) 42 10 0 0 50) 43 11 0 0 20).2 10 k = q (113 + k) := fun k hk => by
    rw [wp_cp2, if_neg (by omega), wp_cp2, if_pos ⟨rfl, Nat.zero_le _, by omega⟩, show 0 + (k - 0) = k by omega, wp_cp2, if_neg (by omega)]
    exact R3.b hk
  have d3 : ∀ k, k < 20 → (wp_cp (wp_cp (wp_cp S3 35 3 0 0 4) 42 10 0 0 50) 43 11 0 0 20).2 11 k = q (163 + k) := fun k hk => by
    rw [wp_cp2, if_pos ⟨rfl, Nat.zero_le _, by omega⟩, show 0 + (k - 0) = k by omega, wp_cp2, if_neg (by omega), wp_cp2, if_neg (by omega)]
    exact R3.wt hk
  generalize hS4 : wp_cp (wp_cp (wp_cp S3 35 3 0 0 4) 42 10 0 0 50) 43 11 0 0 20 = S4 at f4 g4 d1 d2 d3
  have R4 := CL_src32 C f4
  have k4 : fr (fun k _ => k = 3 ∨ k = 4 ∨ k = 5 ∨ k = 7 ∨ k = 8 ∨ k = 10 ∨ k = 11) S1 S4 := (k3.mono (fun _ _ y => by omega)).tr (g4.mono (fun _ _ y => by omega))
  have e0 : S4.2 33 7 = q 0 := R4.n
  have e8 : S4.2 33 8 = q 8 := R4.sc 8 (by decide) (by decide) (by decide)
  have e1 : S4.2 33 9 = q 1 := R4.sc 1 (by decide) (by decide) (by decide)
  have e2 : S4.2 33 10 = q 2 := R4.sc 2 (by decide) (by decide) (by decide)
  have e3 : S4.2 33 11 = q 3 := R4.sc 3 (by decide) (by decide) (by decide)
  have e4 : S4.2 33 12 = q 4 := R4.sc 4 (by decide) (by decide) (by decide)
  have e5 : S4.2 33 13 = q 5 := R4.sc 5 (by decide) (by decide) (by decide)
  have fin : Q none (wp_u (wp_u (wp_u (wp_u (wp_u (wp_u (wp_u S4 1 7 (q 0)) 1 8 (q 8)) 1 9 (q 1)) 1 10 (q 2)) 1 11 (q 3)) 1 12 (q 4)) 1 13 (q 5)) := by
    have g5 : fr (fun k _ => k = 1) S4 (wp_u (wp_u (wp_u (wp_u (wp_u (wp_u (wp_u S4 1 7 (q 0)) 1 8 (q 8)) 1 9 (q 1)) 1 10 (q 2)) 1 11 (q 3)) 1 12 (q 4)) 1 13 (q 5)) := fr.up (D := fun k _ => k = 1) (fr.up (D := fun k _ => k = 1) (fr.up (D := fun k _ => k = 1) (fr.up (D := fun k _ => k = 1) (fr.up (D := fun k _ => k = 1) (fr.up (D := fun k _ => k = 1) (fr.up (D := fun k _ => k = 1) fr.rf rfl) rfl) rfl) rfl) rfl) rfl) rfl
    have w0 : (wp_u (wp_u (wp_u (wp_u (wp_u (wp_u (wp_u S4 1 7 (q 0)) 1 8 (q 8)) 1 9 (q 1)) 1 10 (q 2)) 1 11 (q 3)) 1 12 (q 4)) 1 13 (q 5)).2 1 7 = q 0 := (wp_un (by omega)).trans ((wp_un (by omega)).trans ((wp_un (by omega)).trans ((wp_un (by omega)).trans ((wp_un (by omega)).trans ((wp_un (by omega)).trans wp_us)))))
    have w1 : (wp_u (wp_u (wp_u (wp_u (wp_u (wp_u (wp_u S4 1 7 (q 0)) 1 8 (q 8)) 1 9 (q 1)) 1 10 (q 2)) 1 11 (q 3)) 1 12 (q 4)) 1 13 (q 5)).2 1 8 = q 8 := (wp_un (by omega)).trans ((wp_un (by omega)).trans ((wp_un (by omega)).trans ((wp_un (by omega)).trans ((wp_un (by omega)).trans wp_us))))
    have w2 : (wp_u (wp_u (wp_u (wp_u (wp_u (wp_u (wp_u S4 1 7 (q 0)) 1 8 (q 8)) 1 9 (q 1)) 1 10 (q 2)) 1 11 (q 3)) 1 12 (q 4)) 1 13 (q 5)).2 1 9 = q 1 := (wp_un (by omega)).trans ((wp_un (by omega)).trans ((wp_un (by omega)).trans ((wp_un (by omega)).trans wp_us)))
    have w3 : (wp_u (wp_u (wp_u (wp_u (wp_u (wp_u (wp_u S4 1 7 (q 0)) 1 8 (q 8)) 1 9 (q 1)) 1 10 (q 2)) 1 11 (q 3)) 1 12 (q 4)) 1 13 (q 5)).2 1 10 = q 2 := (wp_un (by omega)).trans ((wp_un (by omega)).trans ((wp_un (by omega)).trans wp_us))
    have w4 : (wp_u (wp_u (wp_u (wp_u (wp_u (wp_u (wp_u S4 1 7 (q 0)) 1 8 (q 8)) 1 9 (q 1)) 1 10 (q 2)) 1 11 (q 3)) 1 12 (q 4)) 1 13 (q 5)).2 1 11 = q 3 := (wp_un (by omega)).trans ((wp_un (by omega)).trans wp_us)
    have w5 : (wp_u (wp_u (wp_u (wp_u (wp_u (wp_u (wp_u S4 1 7 (q 0)) 1 8 (q 8)) 1 9 (q 1)) 1 10 (q 2)) 1 11 (q 3)) 1 12 (q 4)) 1 13 (q 5)).2 1 12 = q 4 := (wp_un (by omega)).trans wp_us
    have w6 : (wp_u (wp_u (wp_u (wp_u (wp_u (wp_u (wp_u S4 1 7 (q 0)) 1 8 (q 8)) 1 9 (q 1)) 1 10 (q 2)) 1 11 (q 3)) 1 12 (q 4)) 1 13 (q 5)).2 1 13 = q 5 := wp_us
    generalize (wp_u (wp_u (wp_u (wp_u (wp_u (wp_u (wp_u S4 1 7 (q 0)) 1 8 (q 8)) 1 9 (q 1)) 1 10 (q 2)) 1 11 (q 3)) 1 12 (q 4)) 1 13 (q 5)) = S5 at g5 w0 w1 w2 w3 w4 w5 w6 ⊢
    refine K _ (CL_mk ?_ ?_ ?_ ?_ ?_ ?_ ?_ (fun o ho => ?_) (fun i hi w hw => ?_) (fun i hi o ho => ?_) (fun k hk => ?_) (fun k hk => ?_) (fun i hi => ?_) (fun u hu => ?_) h10) (f4.tr (g5.mono (fun _ _ y => by unfold cCp0; omega)))
    · exact w0
    · exact w1
    · exact w2
    · exact w3
    · exact w4
    · exact w5
    · exact w6
    · exact (g5.2 3 o (by omega)).trans (d1 o ho)
    · show S5.2 (13 + 2 * i + 0) (w + 2) = _
      rw [show 13 + 2 * i + 0 = 13 + 2 * i by omega]
      exact (g5.2 _ _ (by omega)).trans ((k4.2 _ _ (by omega)).trans (a1 i hi w hw))
    · show S5.2 (14 + 2 * i + 0) o = _
      rw [show 14 + 2 * i + 0 = 14 + 2 * i by omega]
      exact (g5.2 _ _ (by omega)).trans ((k4.2 _ _ (by omega)).trans (a2 i hi o ho))
    · exact (g5.2 10 k (by omega)).trans (d2 k hk)
    · exact (g5.2 11 k (by omega)).trans (d3 k hk)
    · show S5.2 (13 + 2 * i + 0) 0 = _
      rw [show 13 + 2 * i + 0 = 13 + 2 * i by omega]
      exact (g5.2 _ _ (by omega)).trans ((k4.2 _ _ (by omega)).trans (a3 i hi))
    · rcases (show u = 0 ∨ u = 1 by omega) with rfl | rfl
      · exact ⟨(C.2.2 0 (by decide)).1, hl0, (g5.2 4 3 (by omega)).trans ((g4.2 4 3 (by omega)).trans ((g3.2 4 3 (by omega)).trans b1)), fun k x hk => (g5.2 5 k (by omega)).trans ((g4.2 5 k (by omega)).trans ((g3.2 5 k (by omega)).trans (b2 k x hk)))⟩
      · exact ⟨(C.2.2 1 (by decide)).1, hl1, (g5.2 7 3 (by omega)).trans ((g4.2 7 3 (by omega)).trans c1), fun k x hk => (g5.2 8 k (by omega)).trans ((g4.2 8 k (by omega)).trans (c2 k x hk))⟩
  have K115 : wp (h_La_copyFrom - 1) y_La_copyFrom 115 [some (.ref 1), some (.ref 33), some (.int (nI 10))] [] S4 Q := by
    refine wp_aload_n d_La_copyFrom_115 rfl rfl ?_
    refine wp_aload_n d_La_copyFrom_116 rfl rfl ?_
    refine wp_getI d_La_copyFrom_117 ow_La_copyFrom fl_1_46 (O_33 _) rfl (e0) ?_
    refine wp_put (ty := .int) d_La_copyFrom_120 ow_La_copyFrom fl_1_46 (by decide +kernel) (by decide +kernel) (O_1 _) rfl ⟨rfl, rfl⟩ ?_
    refine wp_aload_n d_La_copyFrom_123 rfl rfl ?_
    refine wp_aload_n d_La_copyFrom_124 rfl rfl ?_
    refine wp_getI d_La_copyFrom_125 ow_La_copyFrom fl_1_50 (O_33 _) rfl ((wp_un (by omega)).trans e8) ?_
    refine wp_put (ty := .int) d_La_copyFrom_128 ow_La_copyFrom fl_1_50 (by decide +kernel) (by decide +kernel) (O_1 _) rfl ⟨rfl, rfl⟩ ?_
    refine wp_aload_n d_La_copyFrom_131 rfl rfl ?_
    refine wp_aload_n d_La_copyFrom_132 rfl rfl ?_
    refine wp_getI d_La_copyFrom_133 ow_La_copyFrom fl_1_53 (O_33 _) rfl ((wp_un (by omega)).trans ((wp_un (by omega)).trans e1)) ?_
    refine wp_put (ty := .int) d_La_copyFrom_136 ow_La_copyFrom fl_1_53 (by decide +kernel) (by decide +kernel) (O_1 _) rfl ⟨rfl, rfl⟩ ?_
    refine wp_aload_n d_La_copyFrom_139 rfl rfl ?_
    refine wp_aload_n d_La_copyFrom_140 rfl rfl ?_
    refine wp_getI d_La_copyFrom_141 ow_La_copyFrom fl_1_56 (O_33 _) rfl ((wp_un (by omega)).trans ((wp_un (by omega)).trans ((wp_un (by omega)).trans e2))) ?_
    refine wp_put (ty := .int) d_La_copyFrom_144 ow_La_copyFrom fl_1_56 (by decide +kernel) (by decide +kernel) (O_1 _) rfl ⟨rfl, rfl⟩ ?_
    refine wp_aload_n d_La_copyFrom_147 rfl rfl ?_
    refine wp_aload_n d_La_copyFrom_148 rfl rfl ?_
    refine wp_getI d_La_copyFrom_149 ow_La_copyFrom fl_1_59 (O_33 _) rfl ((wp_un (by omega)).trans ((wp_un (by omega)).trans ((wp_un (by omega)).trans ((wp_un (by omega)).trans e3)))) ?_
    refine wp_put (ty := .int) d_La_copyFrom_152 ow_La_copyFrom fl_1_59 (by decide +kernel) (by decide +kernel) (O_1 _) rfl ⟨rfl, rfl⟩ ?_
    refine wp_aload_n d_La_copyFrom_155 rfl rfl ?_
    refine wp_aload_n d_La_copyFrom_156 rfl rfl ?_
    refine wp_getI d_La_copyFrom_157 ow_La_copyFrom fl_1_62 (O_33 _) rfl ((wp_un (by omega)).trans ((wp_un (by omega)).trans ((wp_un (by omega)).trans ((wp_un (by omega)).trans ((wp_un (by omega)).trans e4))))) ?_
    refine wp_put (ty := .int) d_La_copyFrom_160 ow_La_copyFrom fl_1_62 (by decide +kernel) (by decide +kernel) (O_1 _) rfl ⟨rfl, rfl⟩ ?_
    refine wp_aload_n d_La_copyFrom_163 rfl rfl ?_
    refine wp_aload_n d_La_copyFrom_164 rfl rfl ?_
    refine wp_getI d_La_copyFrom_165 ow_La_copyFrom fl_1_65 (O_33 _) rfl ((wp_un (by omega)).trans ((wp_un (by omega)).trans ((wp_un (by omega)).trans ((wp_un (by omega)).trans ((wp_un (by omega)).trans ((wp_un (by omega)).trans e5)))))) ?_
    refine wp_put (ty := .int) d_La_copyFrom_168 ow_La_copyFrom fl_1_65 (by decide +kernel) (by decide +kernel) (O_1 _) rfl ⟨rfl, rfl⟩ ?_
    refine wp_return d_La_copyFrom_171 rt_La_copyFrom ?_
    exact fin
  refine wp_aload_n d_La_copyFrom_71 rfl rfl ?_
  refine wp_getR d_La_copyFrom_72 ow_La_copyFrom fl_1_17 (O_33 _) rfl ?_
  refine wp_iconst (x := nI 0) d_La_copyFrom_75 rfl ?_
  refine wp_aload_n d_La_copyFrom_76 rfl rfl ?_
  refine wp_getR d_La_copyFrom_77 ow_La_copyFrom fl_1_17 (O_1 _) rfl ?_
  refine wp_iconst (x := nI 0) d_La_copyFrom_80 rfl ?_
  refine wp_iconst (x := nI 4) d_La_copyFrom_81 rfl ?_
  refine wp_acp d_La_copyFrom_82 ow_La_copyFrom lk_1_91 rfl (A_35 _) (A_3 _) (by omega) (by omega) (by decide) (by decide) ?_
  refine wp_aload_n d_La_copyFrom_85 rfl rfl ?_
  refine wp_getR d_La_copyFrom_86 ow_La_copyFrom fl_1_37 (O_33 _) rfl ?_
  refine wp_iconst (x := nI 0) d_La_copyFrom_89 rfl ?_
  refine wp_aload_n d_La_copyFrom_90 rfl rfl ?_
  refine wp_getR d_La_copyFrom_91 ow_La_copyFrom fl_1_37 (O_1 _) rfl ?_
  refine wp_iconst (x := nI 0) d_La_copyFrom_94 rfl ?_
  refine wp_bipush (x := nI 50) d_La_copyFrom_95 (by decide) ?_
  refine wp_acp d_La_copyFrom_97 ow_La_copyFrom lk_1_91 rfl (A_42 _) (A_10 _) (by omega) (by omega) (by decide) (by decide) ?_
  refine wp_aload_n d_La_copyFrom_100 rfl rfl ?_
  refine wp_getR d_La_copyFrom_101 ow_La_copyFrom fl_1_40 (O_33 _) rfl ?_
  refine wp_iconst (x := nI 0) d_La_copyFrom_104 rfl ?_
  refine wp_aload_n d_La_copyFrom_105 rfl rfl ?_
  refine wp_getR d_La_copyFrom_106 ow_La_copyFrom fl_1_40 (O_1 _) rfl ?_
  refine wp_iconst (x := nI 0) d_La_copyFrom_109 rfl ?_
  refine wp_bipush (x := nI 20) d_La_copyFrom_110 (by decide) ?_
  refine wp_acp d_La_copyFrom_112 ow_La_copyFrom lk_1_91 rfl (A_43 _) (A_11 _) (by omega) (by omega) (by decide) (by decide) ?_
  exact hS4 ▸ K115
/-- cells that a copying changes -/
def cCp32 (k _j : Nat) : Prop := 33 ≤ k ∧ k ≤ 64
theorem CL_src0 {S' : wp_S} (C : CL (sft 0 S) q) (f : fr cCp32 S S') : CL (sft 0 S') q := C.fr (fun k j y => f.2 (k + 0) j (fun z => by unfold cCp32 at z; unfold cW at y; omega))
theorem c_lc_loop32 (C : CL (sft 0 S) q) (hN : ∀ i, i < 10 → S.2 (45 + 2 * i) 0 = nI i) (K : ∀ S', fr cCp32 S S' → (∀ i, i < sp_n q → ∀ w, w < 6 → S'.2 (45 + 2 * i) (w + 2) = q (13 + 10 * i + w)) → (∀ i, i < sp_n q → ∀ o, o < 4 → S'.2 (46 + 2 * i) o = q (13 + 10 * i + (6 + o))) → (∀ i, i < 10 → S'.2 (45 + 2 * i) 0 = nI i) → wp (h_La_copyFrom - 1) y_La_copyFrom 29 [some (.ref 33), some (.ref 1), some (.int (nI 10))] [] S' Q) : ∀ m k (S' : wp_S), k + m = 10 → fr cCp32 S S' → (∀ i, i < k → i < sp_n q → ∀ w, w < 6 → S'.2 (45 + 2 * i) (w + 2) = q (13 + 10 * i + w)) → (∀ i, i < k → i < sp_n q → ∀ o, o < 4 → S'.2 (46 + 2 * i) o = q (13 + 10 * i + (6 + o))) → (∀ i, i < 10 → S'.2 (45 + 2 * i) 0 = nI i) → wp (h_La_copyFrom - 1) y_La_copyFrom 2 [some (.ref 33), some (.ref 1), some (.int (nI k))] [] S' Q := by
  have h10 := C.le
  intro m
  induction m with
  | zero =>
    intro k S' hk f h1 h2 h3
    obtain rfl : k = 10 := by omega
    refine wp_iload_n d_La_copyFrom_2 rfl rfl ?_
    refine wp_bipush (x := nI 10) d_La_copyFrom_3 (by decide) ?_
    refine wp_icN_ge (pc' := 29) d_La_copyFrom_5 (by decide) (by omega) (by omega) (fun _ => ?_) (fun q => absurd q (by decide))
    exact K S' f (fun i hi => h1 i (by omega) hi) (fun i hi => h2 i (by omega) hi) h3
  | succ m ih =>
    intro k S' hk f h1 h2 h3
    have hk10 : k < 10 := by omega
    have C' := CL_src0 C f
    have s1 : k < sp_n q → ∀ w, w < 6 → S'.2 (13 + 2 * k) (w + 2) = q (13 + 10 * k + w) := fun hkn w hw => by
      have := C'.f hkn hw
      rw [show (sft 0 S').2 (13 + 2 * k) (w + 2) = S'.2 (13 + 2 * k + 0) (w + 2) from rfl, show 13 + 2 * k + 0 = 13 + 2 * k by omega] at this
      exact this
    have s2 : k < sp_n q → ∀ o, o < 4 → S'.2 (14 + 2 * k) o = q (13 + 10 * k + (6 + o)) := fun hkn o ho => by
      have := C'.t hkn ho
      rw [show (sft 0 S').2 (14 + 2 * k) o = S'.2 (14 + 2 * k + 0) o from rfl, show 14 + 2 * k + 0 = 14 + 2 * k by omega] at this
      exact this
    refine wp_iload_n d_La_copyFrom_2 rfl rfl ?_
    refine wp_bipush (x := nI 10) d_La_copyFrom_3 (by decide) ?_
    refine wp_icN_ge (pc' := 29) d_La_copyFrom_5 (by decide) (by omega) (by omega) (fun h5 => absurd h5 (by omega)) (fun h5 => ?_)
    refine wp_aload_n d_La_copyFrom_8 rfl rfl ?_
    refine wp_getR d_La_copyFrom_9 ow_La_copyFrom fl_1_11 (O_33 _) rfl ?_
    refine wp_iload_n d_La_copyFrom_12 rfl rfl ?_
    refine wp_aaload d_La_copyFrom_13 rfl (f_H (by omega)) (by decide) ?_
    refine wp_aload_n d_La_copyFrom_14 rfl rfl ?_
    refine wp_getR d_La_copyFrom_15 ow_La_copyFrom fl_1_11 (O_1 _) rfl ?_
    refine wp_iload_n d_La_copyFrom_18 rfl rfl ?_
    refine wp_aaload d_La_copyFrom_19 rfl (f_F (by omega)) (by decide) ?_
    refine wp_invV d_La_copyFrom_20 ow_La_copyFrom lk_1_77 (by decide) mi_Fi_copyFrom rfl rfl (Nat.le_of_ble_eq_true rfl) rfl (wp_isC (O_H _ (by omega))) (show h_Fi_copyFrom ≤ _ from by decide) (c_fcopy (fun S => O_H S hk10) (fun S => O_F S hk10) (fun S => A_J S hk10) (fun S => A_G S hk10) (by omega) (by omega) (by omega) ?_)
    refine wp_Kv ?_
    refine wp_iinc2 d_La_copyFrom_23 rfl (nI_add _ 1) ?_
    refine wp_goto (pc' := 2) d_La_copyFrom_26 (by decide) ?_
    refine ih (k + 1) _ (by omega) (f.tr (fcp_fr (fun j => ⟨⟨by omega, by omega⟩, ⟨by omega, by omega⟩⟩))) (fun i hi hin w hw => ?_) (fun i hi hin o ho => ?_) (fun i hi => ?_)
    · show (if 45 + 2 * i = 45 + 2 * k ∧ 2 ≤ w + 2 ∧ w + 2 ≤ 7 then S'.2 (13 + 2 * k) (w + 2) else if 45 + 2 * i = 46 + 2 * k ∧ w + 2 < 4 then S'.2 (14 + 2 * k) (w + 2) else S'.2 (45 + 2 * i) (w + 2)) = _
      by_cases hik : i = k
      · rw [if_pos ⟨by rw [hik], by omega, by omega⟩, hik]
        exact s1 (by omega) w hw
      · rw [if_neg (by omega), if_neg (by omega)]
        exact h1 i (by omega) hin w hw
    · show (if 46 + 2 * i = 45 + 2 * k ∧ 2 ≤ o ∧ o ≤ 7 then S'.2 (13 + 2 * k) o else if 46 + 2 * i = 46 + 2 * k ∧ o < 4 then S'.2 (14 + 2 * k) o else S'.2 (46 + 2 * i) o) = _
      by_cases hik : i = k
      · rw [if_neg (by omega), if_pos ⟨by rw [hik], ho⟩, hik]
        exact s2 (by omega) o ho
      · rw [if_neg (by omega), if_neg (by omega)]
        exact h2 i (by omega) hin o ho
    · show (if 45 + 2 * i = 45 + 2 * k ∧ 2 ≤ 0 ∧ 0 ≤ 7 then S'.2 (13 + 2 * k) 0 else if 45 + 2 * i = 46 + 2 * k ∧ 0 < 4 then S'.2 (14 + 2 * k) 0 else S'.2 (45 + 2 * i) 0) = _
      rw [if_neg (by omega), if_neg (by omega)]
      exact h3 i hi
theorem c_lcopy32 (C : CL (sft 0 S) q) (hN : ∀ i, i < 10 → S.2 (45 + 2 * i) 0 = nI i) (K : ∀ S', CL (sft 32 S') q → fr cCp32 S S' → Q none S') : cl h_La_copyFrom y_La_copyFrom [.ref 33, .ref 1] S Q := by
  have h10 := C.le
  have hp0 := sp_code_pos (by decide) (C.2.2 0 (by decide)).1
  have hp1 := sp_code_pos (by decide) (C.2.2 1 (by decide)).1
  have hl0 := (C.2.2 0 (by decide)).2.1
  have hl1 := (C.2.2 1 (by decide)).2.1
  refine cl_in ml_La_copyFrom rfl rfl ?_
  refine wp_iconst (x := nI 0) d_La_copyFrom_0 rfl ?_
  refine wp_iston2 d_La_copyFrom_1 rfl ?_
  refine c_lc_loop32 C hN (fun S1 f1 a1 a2 a3 => ?_) 10 0 S rfl fr.rf (fun i hi => by omega) (fun i hi => by omega) hN
  have R1 := CL_src0 C f1
  refine wp_aload_n d_La_copyFrom_29 rfl rfl ?_
  refine wp_getR d_La_copyFrom_30 ow_La_copyFrom fl_1_28 (O_33 _) rfl ?_
  refine wp_aload_n d_La_copyFrom_33 rfl rfl ?_
  refine wp_getR d_La_copyFrom_34 ow_La_copyFrom fl_1_28 (O_1 _) rfl ?_
  refine wp_getR d_La_copyFrom_37 ow_La_copyFrom fl_1_81 (O_4 _) rfl ?_
  refine wp_aload_n d_La_copyFrom_40 rfl rfl ?_
  refine wp_getR d_La_copyFrom_41 ow_La_copyFrom fl_1_28 (O_1 _) rfl ?_
  refine wp_getI d_La_copyFrom_44 ow_La_copyFrom fl_1_84 (O_4 _) rfl ((R1.2.2 0 (by decide)).2.2.1) ?_
  refine wp_invV d_La_copyFrom_47 ow_La_copyFrom lk_1_87 (by decide) mi_Lw_takeOver rfl rfl (Nat.le_of_ble_eq_true rfl) rfl (wp_isC (O_36 _)) (show h_Lw_takeOver ≤ _ from by decide) (c_takeOver (st := 38) (fun S => Or.inl (O_36 S)) A_37 A_5 hp0 hl0 ?_)
  refine wp_Kv ?_
  skip
  have f2 : fr cCp32 S (wp_u (wp_cp S1 5 37 0 0 (sp_code q 0).length) 36 3 (nI (sp_code q 0).length)) := (f1.cp (fun j => ⟨by decide, by decide⟩)).up ⟨by decide, by decide⟩
  have g2 : fr (fun k _ => k = 36 ∨ k = 37) S1 (wp_u (wp_cp S1 5 37 0 0 (sp_code q 0).length) 36 3 (nI (sp_code q 0).length)) := (fr.rf.cp (fun j => Or.inr rfl)).up (Or.inl rfl)
  have b1 : (wp_u (wp_cp S1 5 37 0 0 (sp_code q 0).length) 36 3 (nI (sp_code q 0).length)).2 36 3 = nI (sp_code q 0).length := wp_us
  have b2 : ∀ k x, (sp_code q 0)[k]? = some x → (wp_u (wp_cp S1 5 37 0 0 (sp_code q 0).length) 36 3 (nI (sp_code q 0).length)).2 37 k = x := fun k x hk => by
    have hkl : k < (sp_code q 0).length := (List.getElem?_eq_some_iff.mp hk).1
    refine (wp_un (by omega)).trans ?_
    rw [wp_cp2, if_pos ⟨rfl, Nat.zero_le _, by omega⟩, show 0 + (k - 0) = k by omega]
    exact (R1.2.2 0 (by decide)).2.2.2 k x hk
  generalize wp_u (wp_cp S1 5 37 0 0 (sp_code q 0).length) 36 3 (nI (sp_code q 0).length) = S2 at f2 g2 b1 b2 ⊢
  have R2 := CL_src0 C f2
  refine wp_aload_n d_La_copyFrom_50 rfl rfl ?_
  refine wp_getR d_La_copyFrom_51 ow_La_copyFrom fl_1_34 (O_33 _) rfl ?_
  refine wp_aload_n d_La_copyFrom_54 rfl rfl ?_
  refine wp_getR d_La_copyFrom_55 ow_La_copyFrom fl_1_34 (O_1 _) rfl ?_
  refine wp_getR d_La_copyFrom_58 ow_La_copyFrom fl_1_81 (O_7 _) rfl ?_
  refine wp_aload_n d_La_copyFrom_61 rfl rfl ?_
  refine wp_getR d_La_copyFrom_62 ow_La_copyFrom fl_1_34 (O_1 _) rfl ?_
  refine wp_getI d_La_copyFrom_65 ow_La_copyFrom fl_1_84 (O_7 _) rfl ((R2.2.2 1 (by decide)).2.2.1) ?_
  refine wp_invV d_La_copyFrom_68 ow_La_copyFrom lk_1_87 (by decide) mi_Lw_takeOver rfl rfl (Nat.le_of_ble_eq_true rfl) rfl (wp_isC (O_39 _)) (show h_Lw_takeOver ≤ _ from by decide) (c_takeOver (st := 41) (fun S => Or.inr (O_39 S)) A_40 A_8 hp1 hl1 ?_)
  refine wp_Kv ?_
  skip
  have f3 : fr cCp32 S (wp_u (wp_cp S2 8 40 0 0 (sp_code q 1).length) 39 3 (nI (sp_code q 1).length)) := (f2.cp (fun j => ⟨by decide, by decide⟩)).up ⟨by decide, by decide⟩
  have g3 : fr (fun k _ => k = 39 ∨ k = 40) S2 (wp_u (wp_cp S2 8 40 0 0 (sp_code q 1).length) 39 3 (nI (sp_code q 1).length)) := (fr.rf.cp (fun j => Or.inr rfl)).up (Or.inl rfl)
  have c1 : (wp_u (wp_cp S2 8 40 0 0 (sp_code q 1).length) 39 3 (nI (sp_code q 1).length)).2 39 3 = nI (sp_code q 1).length := wp_us
  have c2 : ∀ k x, (sp_code q 1)[k]? = some x → (wp_u (wp_cp S2 8 40 0 0 (sp_code q 1).length) 39 3 (nI (sp_code q 1).length)).2 40 k = x := fun k x hk => by
    have hkl : k < (sp_code q 1).length := (List.getElem?_eq_some_iff.mp hk).1
    refine (wp_un (by omega)).trans ?_
    rw [wp_cp2, if_pos ⟨rfl, Nat.zero_le _, by omega⟩, show 0 + (k - 0) = k by omega]
    exact (R2.2.2 1 (by decide)).2.2.2 k x hk
  generalize wp_u (wp_cp S2 8 40 0 0 (sp_code q 1).length) 39 3 (nI (sp_code q 1).length) = S3 at f3 g3 c1 c2 ⊢
  have R3 := CL_src0 C f3
  have k3 : fr (fun k _ => k = 36 ∨ k = 37 ∨ k = 39 ∨ k = 40) S1 S3 := (g2.mono (fun _ _ y => by omega)).tr (g3.mono (fun _ _ y => by omega))
  have f4 : fr cCp32 S (wp_cp (wp_cp (wp_cp S3 3 35 0 0 4) 10 42 0 0 50) 11 43 0 0 20) := ((f3.cp (fun j => ⟨by decide, by decide⟩)).cp (fun j => ⟨by decide, by decide⟩)).cp (fun j => ⟨by decide, by decide⟩)
  have g4 : fr (fun k _ => k = 35 ∨ k = 42 ∨ k = 43) S3 (wp_cp (wp_cp (wp_cp S3 3 35 0 0 4) 10 42 0 0 50) 11 43 0 0 20) := ((fr.rf.cp (fun j => Or.inl rfl)).cp (fun j => Or.inr (Or.inl rfl))).cp (fun j => Or.inr (Or.inr rfl))
  have d1 : ∀ o, o < 4 → (wp_cp (wp_cp (wp_cp S3 3 35 0 0 4) 10 42 0 0 50) 11 43 0 0 20).2 35 o = q (9 + o) := fun o ho => by
    rw [wp_cp2, if_neg (by omega), wp_cp2, if_neg (by omega), wp_cp2, if_pos ⟨rfl, Nat.zero_le _, by omega⟩, show 0 + (o - 0) = o by omega]
    exact R3.q9 ho
  have d2 : ∀ k, k < 50 → (wp_cp (wp_cp (wp_cp S3 3 35 0 0 4) 10 42 0 0 50) 11 43 0 0 20).2 42 k = q (113 + k) := fun k hk => by
    rw [wp_cp2, if_neg (by omega), wp_cp2, if_pos ⟨rfl, Nat.zero_le _, by omega⟩, show 0 + (k - 0) = k by omega, wp_cp2, if_neg (by omega)]
    exact R3.b hk
  have d3 : ∀ k, k < 20 → (wp_cp (wp_cp (wp_cp S3 3 35 0 0 4) 10 42 0 0 50) 11 43 0 0 20).2 43 k = q (163 + k) := fun k hk => by
    rw [wp_cp2, if_pos ⟨rfl, Nat.zero_le _, by omega⟩, show 0 + (k - 0) = k by omega, wp_cp2, if_neg (by omega), wp_cp2, if_neg (by omega)]
    exact R3.wt hk
  generalize hS4 : wp_cp (wp_cp (wp_cp S3 3 35 0 0 4) 10 42 0 0 50) 11 43 0 0 20 = S4 at f4 g4 d1 d2 d3
  have R4 := CL_src0 C f4
  have k4 : fr (fun k _ => k = 35 ∨ k = 36 ∨ k = 37 ∨ k = 39 ∨ k = 40 ∨ k = 42 ∨ k = 43) S1 S4 := (k3.mono (fun _ _ y => by omega)).tr (g4.mono (fun _ _ y => by omega))
  have e0 : S4.2 1 7 = q 0 := R4.n
  have e8 : S4.2 1 8 = q 8 := R4.sc 8 (by decide) (by decide) (by decide)
  have e1 : S4.2 1 9 = q 1 := R4.sc 1 (by decide) (by decide) (by decide)
  have e2 : S4.2 1 10 = q 2 := R4.sc 2 (by decide) (by decide) (by decide)
  have e3 : S4.2 1 11 = q 3 := R4.sc 3 (by decide) (by decide) (by decide)
  have e4 : S4.2 1 12 = q 4 := R4.sc 4 (by decide) (by decide) (by decide)
  have e5 : S4.2 1 13 = q 5 := R4.sc 5 (by decide) (by decide) (by decide)
  have fin : Q none (wp_u (wp_u (wp_u (wp_u (wp_u (wp_u (wp_u S4 33 7 (q 0)) 33 8 (q 8)) 33 9 (q 1)) 33 10 (q 2)) 33 11 (q 3)) 33 12 (q 4)) 33 13 (q 5)) := by
    have g5 : fr (fun k _ => k = 33) S4 (wp_u (wp_u (wp_u (wp_u (wp_u (wp_u (wp_u S4 33 7 (q 0)) 33 8 (q 8)) 33 9 (q 1)) 33 10 (q 2)) 33 11 (q 3)) 33 12 (q 4)) 33 13 (q 5)) := fr.up (D := fun k _ => k = 33) (fr.up (D := fun k _ => k = 33) (fr.up (D := fun k _ => k = 33) (fr.up (D := fun k _ => k = 33) (fr.up (D := fun k _ => k = 33) (fr.up (D := fun k _ => k = 33) (fr.up (D := fun k _ => k = 33) fr.rf rfl) rfl) rfl) rfl) rfl) rfl) rfl
    have w0 : (wp_u (wp_u (wp_u (wp_u (wp_u (wp_u (wp_u S4 33 7 (q 0)) 33 8 (q 8)) 33 9 (q 1)) 33 10 (q 2)) 33 11 (q 3)) 33 12 (q 4)) 33 13 (q 5)).2 33 7 = q 0 := (wp_un (by omega)).trans ((wp_un (by omega)).trans ((wp_un (by omega)).trans ((wp_un (by omega)).trans ((wp_un (by omega)).trans ((wp_un (by omega)).trans wp_us)))))
    have w1 : (wp_u (wp_u (wp_u (wp_u (wp_u (wp_u (wp_u S4 33 7 (q 0)) 33 8 (q 8)) 33 9 (q 1)) 33 10 (q 2)) 33 11 (q 3)) 33 12 (q 4)) 33 13 (q 5)).2 33 8 = q 8 := (wp_un (by omega)).trans ((wp_un (by omega)).trans ((wp_un (by omega)).trans ((wp_un (by omega)).trans ((wp_un (by omega)).trans wp_us))))
    have w2 : (wp_u (wp_u (wp_u (wp_u (wp_u (wp_u (wp_u S4 33 7 (q 0)) 33 8 (q 8)) 33 9 (q 1)) 33 10 (q 2)) 33 11 (q 3)) 33 12 (q 4)) 33 13 (q 5)).2 33 9 = q 1 := (wp_un (by omega)).trans ((wp_un (by omega)).trans ((wp_un (by omega)).trans ((wp_un (by omega)).trans wp_us)))
    have w3 : (wp_u (wp_u (wp_u (wp_u (wp_u (wp_u (wp_u S4 33 7 (q 0)) 33 8 (q 8)) 33 9 (q 1)) 33 10 (q 2)) 33 11 (q 3)) 33 12 (q 4)) 33 13 (q 5)).2 33 10 = q 2 := (wp_un (by omega)).trans ((wp_un (by omega)).trans ((wp_un (by omega)).trans wp_us))
    have w4 : (wp_u (wp_u (wp_u (wp_u (wp_u (wp_u (wp_u S4 33 7 (q 0)) 33 8 (q 8)) 33 9 (q 1)) 33 10 (q 2)) 33 11 (q 3)) 33 12 (q 4)) 33 13 (q 5)).2 33 11 = q 3 := (wp_un (by omega)).trans ((wp_un (by omega)).trans wp_us)
    have w5 : (wp_u (wp_u (wp_u (wp_u (wp_u (wp_u (wp_u S4 33 7 (q 0)) 33 8 (q 8)) 33 9 (q 1)) 33 10 (q 2)) 33 11 (q 3)) 33 12 (q 4)) 33 13 (q 5)).2 33 12 = q 4 := (wp_un (by omega)).trans wp_us
    have w6 : (wp_u (wp_u (wp_u (wp_u (wp_u (wp_u (wp_u S4 33 7 (q 0)) 33 8 (q 8)) 33 9 (q 1)) 33 10 (q 2)) 33 11 (q 3)) 33 12 (q 4)) 33 13 (q 5)).2 33 13 = q 5 := wp_us
    generalize (wp_u (wp_u (wp_u (wp_u (wp_u (wp_u (wp_u S4 33 7 (q 0)) 33 8 (q 8)) 33 9 (q 1)) 33 10 (q 2)) 33 11 (q 3)) 33 12 (q 4)) 33 13 (q 5)) = S5 at g5 w0 w1 w2 w3 w4 w5 w6 ⊢
    refine K _ (CL_mk ?_ ?_ ?_ ?_ ?_ ?_ ?_ (fun o ho => ?_) (fun i hi w hw => ?_) (fun i hi o ho => ?_) (fun k hk => ?_) (fun k hk => ?_) (fun i hi => ?_) (fun u hu => ?_) h10) (f4.tr (g5.mono (fun _ _ y => by unfold cCp32; omega)))
    · exact w0
    · exact w1
    · exact w2
    · exact w3
    · exact w4
    · exact w5
    · exact w6
    · exact (g5.2 35 o (by omega)).trans (d1 o ho)
    · show S5.2 (13 + 2 * i + 32) (w + 2) = _
      rw [show 13 + 2 * i + 32 = 45 + 2 * i by omega]
      exact (g5.2 _ _ (by omega)).trans ((k4.2 _ _ (by omega)).trans (a1 i hi w hw))
    · show S5.2 (14 + 2 * i + 32) o = _
      rw [show 14 + 2 * i + 32 = 46 + 2 * i by omega]
      exact (g5.2 _ _ (by omega)).trans ((k4.2 _ _ (by omega)).trans (a2 i hi o ho))
    · exact (g5.2 42 k (by omega)).trans (d2 k hk)
    · exact (g5.2 43 k (by omega)).trans (d3 k hk)
    · show S5.2 (13 + 2 * i + 32) 0 = _
      rw [show 13 + 2 * i + 32 = 45 + 2 * i by omega]
      exact (g5.2 _ _ (by omega)).trans ((k4.2 _ _ (by omega)).trans (a3 i hi))
    · rcases (show u = 0 ∨ u = 1 by omega) with rfl | rfl
      · exact ⟨(C.2.2 0 (by decide)).1, hl0, (g5.2 36 3 (by omega)).trans ((g4.2 36 3 (by omega)).trans ((g3.2 36 3 (by omega)).trans b1)), fun k x hk => (g5.2 37 k (by omega)).trans ((g4.2 37 k (by omega)).trans ((g3.2 37 k (by omega)).trans (b2 k x hk)))⟩
      · exact ⟨(C.2.2 1 (by decide)).1, hl1, (g5.2 39 3 (by omega)).trans ((g4.2 39 3 (by omega)).trans c1), fun k x hk => (g5.2 40 k (by omega)).trans ((g4.2 40 k (by omega)).trans (c2 k x hk))⟩
  have K115 : wp (h_La_copyFrom - 1) y_La_copyFrom 115 [some (.ref 33), some (.ref 1), some (.int (nI 10))] [] S4 Q := by
    refine wp_aload_n d_La_copyFrom_115 rfl rfl ?_
    refine wp_aload_n d_La_copyFrom_116 rfl rfl ?_
    refine wp_getI d_La_copyFrom_117 ow_La_copyFrom fl_1_46 (O_1 _) rfl (e0) ?_
    refine wp_put (ty := .int) d_La_copyFrom_120 ow_La_copyFrom fl_1_46 (by decide +kernel) (by decide +kernel) (O_33 _) rfl ⟨rfl, rfl⟩ ?_
    refine wp_aload_n d_La_copyFrom_123 rfl rfl ?_
    refine wp_aload_n d_La_copyFrom_124 rfl rfl ?_
    refine wp_getI d_La_copyFrom_125 ow_La_copyFrom fl_1_50 (O_1 _) rfl ((wp_un (by omega)).trans e8) ?_
    refine wp_put (ty := .int) d_La_copyFrom_128 ow_La_copyFrom fl_1_50 (by decide +kernel) (by decide +kernel) (O_33 _) rfl ⟨rfl, rfl⟩ ?_
    refine wp_aload_n d_La_copyFrom_131 rfl rfl ?_
    refine wp_aload_n d_La_copyFrom_132 rfl rfl ?_
    refine wp_getI d_La_copyFrom_133 ow_La_copyFrom fl_1_53 (O_1 _) rfl ((wp_un (by omega)).trans ((wp_un (by omega)).trans e1)) ?_
    refine wp_put (ty := .int) d_La_copyFrom_136 ow_La_copyFrom fl_1_53 (by decide +kernel) (by decide +kernel) (O_33 _) rfl ⟨rfl, rfl⟩ ?_
    refine wp_aload_n d_La_copyFrom_139 rfl rfl ?_
    refine wp_aload_n d_La_copyFrom_140 rfl rfl ?_
    refine wp_getI d_La_copyFrom_141 ow_La_copyFrom fl_1_56 (O_1 _) rfl ((wp_un (by omega)).trans ((wp_un (by omega)).trans ((wp_un (by omega)).trans e2))) ?_
    refine wp_put (ty := .int) d_La_copyFrom_144 ow_La_copyFrom fl_1_56 (by decide +kernel) (by decide +kernel) (O_33 _) rfl ⟨rfl, rfl⟩ ?_
    refine wp_aload_n d_La_copyFrom_147 rfl rfl ?_
    refine wp_aload_n d_La_copyFrom_148 rfl rfl ?_
    refine wp_getI d_La_copyFrom_149 ow_La_copyFrom fl_1_59 (O_1 _) rfl ((wp_un (by omega)).trans ((wp_un (by omega)).trans ((wp_un (by omega)).trans ((wp_un (by omega)).trans e3)))) ?_
    refine wp_put (ty := .int) d_La_copyFrom_152 ow_La_copyFrom fl_1_59 (by decide +kernel) (by decide +kernel) (O_33 _) rfl ⟨rfl, rfl⟩ ?_
    refine wp_aload_n d_La_copyFrom_155 rfl rfl ?_
    refine wp_aload_n d_La_copyFrom_156 rfl rfl ?_
    refine wp_getI d_La_copyFrom_157 ow_La_copyFrom fl_1_62 (O_1 _) rfl ((wp_un (by omega)).trans ((wp_un (by omega)).trans ((wp_un (by omega)).trans ((wp_un (by omega)).trans ((wp_un (by omega)).trans e4))))) ?_
    refine wp_put (ty := .int) d_La_copyFrom_160 ow_La_copyFrom fl_1_62 (by decide +kernel) (by decide +kernel) (O_33 _) rfl ⟨rfl, rfl⟩ ?_
    refine wp_aload_n d_La_copyFrom_163 rfl rfl ?_
    refine wp_aload_n d_La_copyFrom_164 rfl rfl ?_
    refine wp_getI d_La_copyFrom_165 ow_La_copyFrom fl_1_65 (O_1 _) rfl ((wp_un (by omega)).trans ((wp_un (by omega)).trans ((wp_un (by omega)).trans ((wp_un (by omega)).trans ((wp_un (by omega)).trans ((wp_un (by omega)).trans e5)))))) ?_
    refine wp_put (ty := .int) d_La_copyFrom_168 ow_La_copyFrom fl_1_65 (by decide +kernel) (by decide +kernel) (O_33 _) rfl ⟨rfl, rfl⟩ ?_
    refine wp_return d_La_copyFrom_171 rt_La_copyFrom ?_
    exact fin
  refine wp_aload_n d_La_copyFrom_71 rfl rfl ?_
  refine wp_getR d_La_copyFrom_72 ow_La_copyFrom fl_1_17 (O_1 _) rfl ?_
  refine wp_iconst (x := nI 0) d_La_copyFrom_75 rfl ?_
  refine wp_aload_n d_La_copyFrom_76 rfl rfl ?_
  refine wp_getR d_La_copyFrom_77 ow_La_copyFrom fl_1_17 (O_33 _) rfl ?_
  refine wp_iconst (x := nI 0) d_La_copyFrom_80 rfl ?_
  refine wp_iconst (x := nI 4) d_La_copyFrom_81 rfl ?_
  refine wp_acp d_La_copyFrom_82 ow_La_copyFrom lk_1_91 rfl (A_3 _) (A_35 _) (by omega) (by omega) (by decide) (by decide) ?_
  refine wp_aload_n d_La_copyFrom_85 rfl rfl ?_
  refine wp_getR d_La_copyFrom_86 ow_La_copyFrom fl_1_37 (O_1 _) rfl ?_
  refine wp_iconst (x := nI 0) d_La_copyFrom_89 rfl ?_
  refine wp_aload_n d_La_copyFrom_90 rfl rfl ?_
  refine wp_getR d_La_copyFrom_91 ow_La_copyFrom fl_1_37 (O_33 _) rfl ?_
  refine wp_iconst (x := nI 0) d_La_copyFrom_94 rfl ?_
  refine wp_bipush (x := nI 50) d_La_copyFrom_95 (by decide) ?_
  refine wp_acp d_La_copyFrom_97 ow_La_copyFrom lk_1_91 rfl (A_10 _) (A_42 _) (by omega) (by omega) (by decide) (by decide) ?_
  refine wp_aload_n d_La_copyFrom_100 rfl rfl ?_
  refine wp_getR d_La_copyFrom_101 ow_La_copyFrom fl_1_40 (O_1 _) rfl ?_
  refine wp_iconst (x := nI 0) d_La_copyFrom_104 rfl ?_
  refine wp_aload_n d_La_copyFrom_105 rfl rfl ?_
  refine wp_getR d_La_copyFrom_106 ow_La_copyFrom fl_1_40 (O_33 _) rfl ?_
  refine wp_iconst (x := nI 0) d_La_copyFrom_109 rfl ?_
  refine wp_bipush (x := nI 20) d_La_copyFrom_110 (by decide) ?_
  refine wp_acp d_La_copyFrom_112 ow_La_copyFrom lk_1_91 rfl (A_11 _) (A_43 _) (by omega) (by omega) (by decide) (by decide) ?_
  exact hS4 ▸ K115
end CT
