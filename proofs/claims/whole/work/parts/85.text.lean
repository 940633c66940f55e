/-! the class: texts -/
theorem pf_nm0 (S : wp_S) (ls : ab_L) (st : List Value) : ab_pf y_Re_faultOf 3 3 18 ls (.ref 10000 :: .ref 65 :: st) (wp_h S) = some (.inl (18, ls, st, wp_h (10000, S.2))) := rfl
theorem pf_nm1 (S : wp_S) (ls : ab_L) (st : List Value) : ab_pf y_Re_faultOf 3 3 18 ls (.ref 10001 :: .ref 65 :: st) (wp_h S) = some (.inl (18, ls, st, wp_h (10001, S.2))) := rfl
section DA
variable {S : wp_S} {q : sp_R} {n : Nat} {Q : Option Value → wp_S → Prop}
theorem c_faultOf0 (hn : n ≤ 50) (hB : rB n (sp_tx q 0)) (hT : ∀ j, j < n → S.2 10 j = sp_tx q 0 j) (K : ∀ S', (∀ k j, k ≠ 65 → k ≠ 66 → S'.2 k j = S.2 k j) → S'.2 65 1 = nI (sp_ps (sp_tx q 0) n 0).2.2.length → (∀ i x, (sp_ps (sp_tx q 0) n 0).2.2[i]? = some x → S'.2 66 i = x) → ((sp_ps (sp_tx q 0) n 0).1 = true ∧ (sp_ps (sp_tx q 0) n 0).2.1 = n → Q (some (.int (-1))) S') ∧ (¬ ((sp_ps (sp_tx q 0) n 0).1 = true ∧ (sp_ps (sp_tx q 0) n 0).2.1 = n) → Q (some (.int (nI (sp_ps (sp_tx q 0) n 0).2.1))) S')) : cl h_Re_faultOf y_Re_faultOf [.ref 65, .int (nI n), .ref 10000] S Q := by
  have e1 : (if nI 50 < nI n then nI 50 else nI n) = nI n := if_neg (fun y => by have := (nI_ltI (by decide) (by omega)).mp y; omega)
  have rd := (c_read (q := q) (u := 0) (by decide) hn hB 42).2 0 0 (by decide) (by decide) (by decide)
  have hle := (sp_pr_le (q := q) (u := 0) (n := n) 42 0 0 0 (Nat.zero_le _)).2.1
  have hS : rS (wp_u (wp_u (wp_u (wp_u (10000, (wp_u S 65 4 (nI n)).2) 65 5 (nI 0)) 65 6 (nI 0)) 65 1 (nI 0)) 65 7 (nI 0)) 0 n (sp_tx q 0) 0 0 true [] := by
    have a4 : (10000, (wp_u S 65 4 (nI n)).2).2 65 4 = nI n := wp_us (S := S) (k := 65) (j := 4)
    have aT : ∀ j, j < n → (10000, (wp_u S 65 4 (nI n)).2).2 10 j = sp_tx q 0 j := fun j hj => (wp_un (S := S) (k := 65) (j := 4) (x := nI n) (by omega)).trans (hT j hj)
    refine ⟨⟨rfl, ?_, fun j hj => ?_⟩, ?_, ?_, ?_, ?_, fun i x hi => by cases hi⟩
    · exact (wp_un (by omega)).trans ((wp_un (by omega)).trans ((wp_un (by omega)).trans ((wp_un (by omega)).trans a4)))
    · exact (wp_un (by omega)).trans ((wp_un (by omega)).trans ((wp_un (by omega)).trans ((wp_un (by omega)).trans (aT j hj))))
    · exact (wp_un (by omega)).trans ((wp_un (by omega)).trans ((wp_un (by omega)).trans wp_us))
    · exact (wp_un (by omega)).trans ((wp_un (by omega)).trans wp_us)
    · exact wp_us
    · exact (wp_un (by omega)).trans wp_us
  have fS : ∀ k j, k ≠ 65 → (wp_u (wp_u (wp_u (wp_u (10000, (wp_u S 65 4 (nI n)).2) 65 5 (nI 0)) 65 6 (nI 0)) 65 1 (nI 0)) 65 7 (nI 0)).2 k j = S.2 k j := fun k j h => (wp_un (fun y => h y.1)).trans ((wp_un (fun y => h y.1)).trans ((wp_un (fun y => h y.1)).trans ((wp_un (fun y => h y.1)).trans (wp_un (S := S) (fun y => h y.1)))))
  generalize hS4 : wp_u (wp_u (wp_u (wp_u (10000, (wp_u S 65 4 (nI n)).2) 65 5 (nI 0)) 65 6 (nI 0)) 65 1 (nI 0)) 65 7 (nI 0) = S4 at hS fS
  refine cl_in ml_Re_faultOf rfl rfl ?_
  refine wp_aload_n d_Re_faultOf_0 rfl rfl ?_
  refine wp_iload_n d_Re_faultOf_1 rfl rfl ?_
  refine wp_aload_n d_Re_faultOf_2 rfl rfl ?_
  refine wp_getR d_Re_faultOf_3 ow_Re_faultOf fl_3_38 (O_65 _) rfl ?_
  refine wp_arraylength d_Re_faultOf_6 (wp_alA (A_10 _)) ?_
  refine wp_mmin d_Re_faultOf_7 ow_Re_faultOf lk_3_41 rfl (e1) ?_
  refine wp_put (ty := .int) d_Re_faultOf_10 ow_Re_faultOf fl_3_25 (by decide +kernel) (by decide +kernel) (O_65 _) rfl ⟨rfl, rfl⟩ ?_
  refine wp_aload_n d_Re_faultOf_13 rfl rfl ?_
  refine wp_aload_n d_Re_faultOf_14 rfl rfl ?_
  refine wp_putr (ty := .int) d_Re_faultOf_15 ow_Re_faultOf fl_3_21 (pf_nm0 _ _ _) ?_
  refine wp_aload_n d_Re_faultOf_18 rfl rfl ?_
  refine wp_iconst (x := nI 0) d_Re_faultOf_19 rfl ?_
  refine wp_put (ty := .int) d_Re_faultOf_20 ow_Re_faultOf fl_3_28 (by decide +kernel) (by decide +kernel) (O_65 _) rfl ⟨rfl, rfl⟩ ?_
  refine wp_aload_n d_Re_faultOf_23 rfl rfl ?_
  refine wp_iconst (x := nI 0) d_Re_faultOf_24 rfl ?_
  refine wp_put (ty := .int) d_Re_faultOf_25 ow_Re_faultOf fl_3_31 (by decide +kernel) (by decide +kernel) (O_65 _) rfl ⟨rfl, rfl⟩ ?_
  refine wp_aload_n d_Re_faultOf_28 rfl rfl ?_
  refine wp_iconst (x := nI 0) d_Re_faultOf_29 rfl ?_
  refine wp_put (ty := .int) d_Re_faultOf_30 ow_Re_faultOf fl_3_15 (by decide +kernel) (by decide +kernel) (O_65 _) rfl ⟨rfl, rfl⟩ ?_
  refine wp_aload_n d_Re_faultOf_33 rfl rfl ?_
  refine wp_iconst (x := nI 0) d_Re_faultOf_34 rfl ?_
  refine wp_put (ty := .boolean) d_Re_faultOf_35 ow_Re_faultOf fl_3_34 (by decide +kernel) (by decide +kernel) (O_65 _) rfl ⟨rfl, rfl⟩ ?_
  refine wp_eqS (hS4) ?_
  refine wp_aload_n d_Re_faultOf_38 rfl rfl ?_
  refine wp_iconst (x := nI 0) d_Re_faultOf_39 rfl ?_
  refine wp_invV d_Re_faultOf_40 ow_Re_faultOf lk_3_47 (by decide) mi_Re_readLevel rfl rfl (Nat.le_of_ble_eq_true rfl) rfl (wp_isC (O_65 _)) (show h_Re_readLevel ≤ _ from by decide) (cl_mono (show rEQ 0 + 6 ≤ 80 by decide) (rd 0 [] S4 _ (Nat.zero_le _) (Nat.zero_le _) hS (fun S5 h5 f5 => ?_)))
  refine wp_Kv ?_
  skip
  have h5 : rS S5 0 n (sp_tx q 0) (sp_ps (sp_tx q 0) n 0).2.1 0 (sp_ps (sp_tx q 0) n 0).1 (sp_ps (sp_tx q 0) n 0).2.2 := h5
  have hle : (sp_ps (sp_tx q 0) n 0).2.1 ≤ n := hle
  obtain ⟨K1, K2⟩ := K S5 (fun k j a b => (f5.2 k j (fun y => by unfold rD at y; omega)).trans (fS k j a)) h5.2.2.2.2.1 h5.2.2.2.2.2
  generalize sp_ps (sp_tx q 0) n 0 = P at *
  refine wp_aload_n d_Re_faultOf_43 rfl rfl ?_
  refine wp_getI d_Re_faultOf_44 ow_Re_faultOf fl_3_34 (O_65 _) rfl (h5.2.2.2.1) ?_
  refine wp_ifB_ne (pc' := 61) d_Re_faultOf_47 (by decide) (fun h47 => ?_) (fun h47 => ?_)
  · refine wp_aload_n d_Re_faultOf_61 rfl rfl ?_
    refine wp_getI d_Re_faultOf_62 ow_Re_faultOf fl_3_28 (O_65 _) rfl (h5.2.1) ?_
    refine wp_goto (pc' := 69) d_Re_faultOf_65 (by decide) ?_
    refine wp_reti d_Re_faultOf_69 rt_Re_faultOf ?_
    exact K2 (fun y => by rw [h47] at y; exact absurd y.1 (by decide))
  · refine wp_aload_n d_Re_faultOf_50 rfl rfl ?_
    refine wp_getI d_Re_faultOf_51 ow_Re_faultOf fl_3_28 (O_65 _) rfl (h5.2.1) ?_
    refine wp_aload_n d_Re_faultOf_54 rfl rfl ?_
    refine wp_getI d_Re_faultOf_55 ow_Re_faultOf fl_3_25 (O_65 _) rfl (h5.1.2.1) ?_
    refine wp_icN_ge (pc' := 68) d_Re_faultOf_58 (by decide) (by omega) (by omega) (fun h58 => ?_) (fun h58 => ?_)
    · refine wp_iconst (x := -1) d_Re_faultOf_68 rfl ?_
      refine wp_reti d_Re_faultOf_69 rt_Re_faultOf ?_
      refine K1 ⟨?_, by omega⟩
      cases hP : P.1
      · exact absurd hP h47
      · rfl
    · refine wp_aload_n d_Re_faultOf_61 rfl rfl ?_
      refine wp_getI d_Re_faultOf_62 ow_Re_faultOf fl_3_28 (O_65 _) rfl (h5.2.1) ?_
      refine wp_goto (pc' := 69) d_Re_faultOf_65 (by decide) ?_
      refine wp_reti d_Re_faultOf_69 rt_Re_faultOf ?_
      exact K2 (fun y => by omega)
theorem c_faultOf1 (hn : n ≤ 50) (hB : rB n (sp_tx q 1)) (hT : ∀ j, j < n → S.2 10 j = sp_tx q 1 j) (K : ∀ S', (∀ k j, k ≠ 65 → k ≠ 66 → S'.2 k j = S.2 k j) → S'.2 65 1 = nI (sp_ps (sp_tx q 1) n 1).2.2.length → (∀ i x, (sp_ps (sp_tx q 1) n 1).2.2[i]? = some x → S'.2 66 i = x) → ((sp_ps (sp_tx q 1) n 1).1 = true ∧ (sp_ps (sp_tx q 1) n 1).2.1 = n → Q (some (.int (-1))) S') ∧ (¬ ((sp_ps (sp_tx q 1) n 1).1 = true ∧ (sp_ps (sp_tx q 1) n 1).2.1 = n) → Q (some (.int (nI (sp_ps (sp_tx q 1) n 1).2.1))) S')) : cl h_Re_faultOf y_Re_faultOf [.ref 65, .int (nI n), .ref 10001] S Q := by
  have e1 : (if nI 50 < nI n then nI 50 else nI n) = nI n := if_neg (fun y => by have := (nI_ltI (by decide) (by omega)).mp y; omega)
  have rd := (c_read (q := q) (u := 1) (by decide) hn hB 42).2 0 0 (by decide) (by decide) (by decide)
  have hle := (sp_pr_le (q := q) (u := 1) (n := n) 42 0 0 0 (Nat.zero_le _)).2.1
  have hS : rS (wp_u (wp_u (wp_u (wp_u (10001, (wp_u S 65 4 (nI n)).2) 65 5 (nI 0)) 65 6 (nI 0)) 65 1 (nI 0)) 65 7 (nI 0)) 1 n (sp_tx q 1) 0 0 true [] := by
    have a4 : (10001, (wp_u S 65 4 (nI n)).2).2 65 4 = nI n := wp_us (S := S) (k := 65) (j := 4)
    have aT : ∀ j, j < n → (10001, (wp_u S 65 4 (nI n)).2).2 10 j = sp_tx q 1 j := fun j hj => (wp_un (S := S) (k := 65) (j := 4) (x := nI n) (by omega)).trans (hT j hj)
    refine ⟨⟨rfl, ?_, fun j hj => ?_⟩, ?_, ?_, ?_, ?_, fun i x hi => by cases hi⟩
    · exact (wp_un (by omega)).trans ((wp_un (by omega)).trans ((wp_un (by omega)).trans ((wp_un (by omega)).trans a4)))
    · exact (wp_un (by omega)).trans ((wp_un (by omega)).trans ((wp_un (by omega)).trans ((wp_un (by omega)).trans (aT j hj))))
    · exact (wp_un (by omega)).trans ((wp_un (by omega)).trans ((wp_un (by omega)).trans wp_us))
    · exact (wp_un (by omega)).trans ((wp_un (by omega)).trans wp_us)
    · exact wp_us
    · exact (wp_un (by omega)).trans wp_us
  have fS : ∀ k j, k ≠ 65 → (wp_u (wp_u (wp_u (wp_u (10001, (wp_u S 65 4 (nI n)).2) 65 5 (nI 0)) 65 6 (nI 0)) 65 1 (nI 0)) 65 7 (nI 0)).2 k j = S.2 k j := fun k j h => (wp_un (fun y => h y.1)).trans ((wp_un (fun y => h y.1)).trans ((wp_un (fun y => h y.1)).trans ((wp_un (fun y => h y.1)).trans (wp_un (S := S) (fun y => h y.1)))))
  generalize hS4 : wp_u (wp_u (wp_u (wp_u (10001, (wp_u S 65 4 (nI n)).2) 65 5 (nI 0)) 65 6 (nI 0)) 65 1 (nI 0)) 65 7 (nI 0) = S4 at hS fS
  refine cl_in ml_Re_faultOf rfl rfl ?_
  refine wp_aload_n d_Re_faultOf_0 rfl rfl ?_
  refine wp_iload_n d_Re_faultOf_1 rfl rfl ?_
  refine wp_aload_n d_Re_faultOf_2 rfl rfl ?_
  refine wp_getR d_Re_faultOf_3 ow_Re_faultOf fl_3_38 (O_65 _) rfl ?_
  refine wp_arraylength d_Re_faultOf_6 (wp_alA (A_10 _)) ?_
  refine wp_mmin d_Re_faultOf_7 ow_Re_faultOf lk_3_41 rfl (e1) ?_
  refine wp_put (ty := .int) d_Re_faultOf_10 ow_Re_faultOf fl_3_25 (by decide +kernel) (by decide +kernel) (O_65 _) rfl ⟨rfl, rfl⟩ ?_
  refine wp_aload_n d_Re_faultOf_13 rfl rfl ?_
  refine wp_aload_n d_Re_faultOf_14 rfl rfl ?_
  refine wp_putr (ty := .int) d_Re_faultOf_15 ow_Re_faultOf fl_3_21 (pf_nm1 _ _ _) ?_
  refine wp_aload_n d_Re_faultOf_18 rfl rfl ?_
  refine wp_iconst (x := nI 0) d_Re_faultOf_19 rfl ?_
  refine wp_put (ty := .int) d_Re_faultOf_20 ow_Re_faultOf fl_3_28 (by decide +kernel) (by decide +kernel) (O_65 _) rfl ⟨rfl, rfl⟩ ?_
  refine wp_aload_n d_Re_faultOf_23 rfl rfl ?_
  refine wp_iconst (x := nI 0) d_Re_faultOf_24 rfl ?_
  refine wp_put (ty := .int) d_Re_faultOf_25 ow_Re_faultOf fl_3_31 (by decide +kernel) (by decide +kernel) (O_65 _) rfl ⟨rfl, rfl⟩ ?_
  refine wp_aload_n d_Re_faultOf_28 rfl rfl ?_
  refine wp_iconst (x := nI 0) d_Re_faultOf_29 rfl ?_
  refine wp_put (ty := .int) d_Re_faultOf_30 ow_Re_faultOf fl_3_15 (by decide +kernel) (by decide +kernel) (O_65 _) rfl ⟨rfl, rfl⟩ ?_
  refine wp_aload_n d_Re_faultOf_33 rfl rfl ?_
  refine wp_iconst (x := nI 0) d_Re_faultOf_34 rfl ?_
  refine wp_put (ty := .boolean) d_Re_faultOf_35 ow_Re_faultOf fl_3_34 (by decide +kernel) (by decide +kernel) (O_65 _) rfl ⟨rfl, rfl⟩ ?_
  refine wp_eqS (hS4) ?_
  refine wp_aload_n d_Re_faultOf_38 rfl rfl ?_
  refine wp_iconst (x := nI 0) d_Re_faultOf_39 rfl ?_
  refine wp_invV d_Re_faultOf_40 ow_Re_faultOf lk_3_47 (by decide) mi_Re_readLevel rfl rfl (Nat.le_of_ble_eq_true rfl) rfl (wp_isC (O_65 _)) (show h_Re_readLevel ≤ _ from by decide) (cl_mono (show rEQ 0 + 6 ≤ 80 by decide) (rd 0 [] S4 _ (Nat.zero_le _) (Nat.zero_le _) hS (fun S5 h5 f5 => ?_)))
  refine wp_Kv ?_
  skip
  have h5 : rS S5 1 n (sp_tx q 1) (sp_ps (sp_tx q 1) n 1).2.1 0 (sp_ps (sp_tx q 1) n 1).1 (sp_ps (sp_tx q 1) n 1).2.2 := h5
  have hle : (sp_ps (sp_tx q 1) n 1).2.1 ≤ n := hle
  obtain ⟨K1, K2⟩ := K S5 (fun k j a b => (f5.2 k j (fun y => by unfold rD at y; omega)).trans (fS k j a)) h5.2.2.2.2.1 h5.2.2.2.2.2
  generalize sp_ps (sp_tx q 1) n 1 = P at *
  refine wp_aload_n d_Re_faultOf_43 rfl rfl ?_
  refine wp_getI d_Re_faultOf_44 ow_Re_faultOf fl_3_34 (O_65 _) rfl (h5.2.2.2.1) ?_
  refine wp_ifB_ne (pc' := 61) d_Re_faultOf_47 (by decide) (fun h47 => ?_) (fun h47 => ?_)
  · refine wp_aload_n d_Re_faultOf_61 rfl rfl ?_
    refine wp_getI d_Re_faultOf_62 ow_Re_faultOf fl_3_28 (O_65 _) rfl (h5.2.1) ?_
    refine wp_goto (pc' := 69) d_Re_faultOf_65 (by decide) ?_
    refine wp_reti d_Re_faultOf_69 rt_Re_faultOf ?_
    exact K2 (fun y => by rw [h47] at y; exact absurd y.1 (by decide))
  · refine wp_aload_n d_Re_faultOf_50 rfl rfl ?_
    refine wp_getI d_Re_faultOf_51 ow_Re_faultOf fl_3_28 (O_65 _) rfl (h5.2.1) ?_
    refine wp_aload_n d_Re_faultOf_54 rfl rfl ?_
    refine wp_getI d_Re_faultOf_55 ow_Re_faultOf fl_3_25 (O_65 _) rfl (h5.1.2.1) ?_
    refine wp_icN_ge (pc' := 68) d_Re_faultOf_58 (by decide) (by omega) (by omega) (fun h58 => ?_) (fun h58 => ?_)
    · refine wp_iconst (x := -1) d_Re_faultOf_68 rfl ?_
      refine wp_reti d_Re_faultOf_69 rt_Re_faultOf ?_
      refine K1 ⟨?_, by omega⟩
      cases hP : P.1
      · exact absurd hP h47
      · rfl
    · refine wp_aload_n d_Re_faultOf_61 rfl rfl ?_
      refine wp_getI d_Re_faultOf_62 ow_Re_faultOf fl_3_28 (O_65 _) rfl (h5.2.1) ?_
      refine wp_goto (pc' := 69) d_Re_faultOf_65 (by decide) ?_
      refine wp_reti d_Re_faultOf_69 rt_Re_faultOf ?_
      exact K2 (fun y => by omega)
theorem CL_text {S2 : wp_S} (C : CL S q) (hw : sp_wf q) {u : Nat} (hu : u < 2) (hn : n ≤ 50) (e4 : q 4 = nI n) (hp : (sp_ps (sp_tp q) n u).1 = true ∧ (sp_ps (sp_tp q) n u).2.1 = n) (h2 : ∀ k j, k ≠ 65 → k ≠ 66 → S2.2 k j = S.2 k j) (hc : ∀ i x, (sp_ps (sp_tp q) n u).2.2[i]? = some x → S2.2 66 i = x) (hl : (sp_ps (sp_tp q) n u).2.2.length ≤ 50) : CL (wp_u (wp_cp (wp_u S2 1 12 (nI 0)) 66 (5 + 3 * u) 0 0 (sp_ps (sp_tp q) n u).2.2.length) (4 + 3 * u) 3 (nI (sp_ps (sp_tp q) n u).2.2.length)) (sp_up (sp_tt q u) 4 (nI 0)) := by
  have C2 : CL S2 q := C.fr (fun k j y => h2 k j (fun z => y (by unfold cW; omega)) (fun z => y (by unfold cW; omega)))
  have C3 : CL (wp_u S2 1 12 (nI 0)) (sp_up q 4 (nI 0)) := C2.w (j := 4) (by decide) (by decide) (by decide) (nI 0)
  have hwt := sp_wf_4 (sp_tt_wf hw hu hn e4 hp) (n := 0) (by decide)
  have er : ∀ j, j < 183 → j ≠ 6 + u → sp_up (sp_tt q u) 4 (nI 0) j = sp_up q 4 (nI 0) j := fun j hj h6 => by
    by_cases h : j = 4
    · rw [h, sp_up_eq, sp_up_eq]
    · rw [sp_up_ne _ _ h, sp_up_ne _ _ h]
      exact (sp_up_ne _ _ h6).trans (sp_tk_n q u 50 hj)
  generalize hS3 : wp_u S2 1 12 (nI 0) = S3 at C3
  have h66 : ∀ i, S3.2 66 i = S2.2 66 i := fun i => by rw [← hS3]; exact wp_un (by omega)
  have un : ∀ k j, ¬ (k = 4 + 3 * u ∧ j = 3) → k ≠ 5 + 3 * u → (wp_u (wp_cp S3 66 (5 + 3 * u) 0 0 (sp_ps (sp_tp q) n u).2.2.length) (4 + 3 * u) 3 (nI (sp_ps (sp_tp q) n u).2.2.length)).2 k j = S3.2 k j := fun k j a b => by
    rw [wp_u2, if_neg a, wp_cp2, if_neg (fun y => b y.1)]
  have en : sp_n (sp_up (sp_tt q u) 4 (nI 0)) = sp_n (sp_up q 4 (nI 0)) := by
    unfold sp_n
    rw [er 0 (by decide) (by omega)]
  refine ⟨⟨fun j g1 g2 g3 g4 => ?_, by rw [en]; exact C3.le⟩, fun i hi => ?_, fun v hv => ?_⟩
  · have hcw := cc_W g1
    rw [un _ _ (by omega) (by omega), C3.1.1 j g1 g2 g3 (by unfold sp_us1 at *; rw [en] at g4; exact g4), er j g1 (by omega)]
  · rw [un _ _ (by omega) (by omega)]
    exact C3.2.1 i hi
  · by_cases hvu : v = u
    · subst hvu
      have hcode : sp_code (sp_up (sp_tt q v) 4 (nI 0)) v = (sp_ps (sp_tp q) n v).2.2 := by
        have e6 : sp_up (sp_tt q v) 4 (nI 0) (6 + v) = nI n := (sp_up_ne _ _ (by omega)).trans ((sp_up_eq _ _ _).trans e4)
        unfold sp_code
        rw [e6, if_neg (nI_pos (by omega)), nI_clamp (by omega), sp_tx_up (by decide), sp_tt_p q v hu hn]
      refine ⟨hwt.2.2.1 v hu, ?_, ?_, fun k x hk => ?_⟩
      · rw [hcode]; exact hl
      · rw [hcode]; exact wp_us
      · rw [hcode] at hk
        have hkl := (List.getElem?_eq_some_iff.mp hk).1
        rw [wp_un (by omega), wp_cp2, if_pos ⟨rfl, Nat.zero_le _, by omega⟩, show 0 + (k - 0) = k by omega, h66]
        exact hc k x hk
    · have L := C3.2.2 v hv
      have ec : sp_code (sp_up (sp_tt q u) 4 (nI 0)) v = sp_code (sp_up q 4 (nI 0)) v := sp_code_c (er _ (by omega) (by omega)) (fun k hk => by
        rw [sp_up_ne _ _ (by omega), sp_up_ne _ _ (by omega)]
        exact (sp_up_ne _ _ (by omega)).trans (if_neg (by omega))) L.1
      refine ⟨hwt.2.2.1 v hv, ?_, ?_, fun k x hk => ?_⟩
      · rw [ec]; exact L.2.1
      · rw [ec, un _ _ (by omega) (by omega)]; exact L.2.2.1
      · rw [ec] at hk
        rw [un _ _ (by omega) (by omega)]
        exact L.2.2.2 k x hk
theorem c_text (C : CL S q) (hw : sp_wf q) (v : Int32) (K : cQ S (op_text q v) Q) : cl h_Fo_text y_Fo_text [.ref 0, .int v] S Q := by
  obtain ⟨n, hn, e4⟩ := hw.2.2.2.2.2.1
  unfold op_text at K
  by_cases h : sp_isW v 1
  · rw [sp_if_t h] at K
    obtain ⟨u, hu, rfl⟩ := (i_in (by decide)).mp h
    rw [e4, nI_clamp (by omega), nI_clamp (by omega)] at K
    have hu2 : u < 2 := by omega
    have hB : rB n (sp_tx (sp_tt q u) u) := fun j hj => by
      rw [sp_tt_x q u hu2 (by omega)]
      exact hw.2.2.2.2.2.2.2.2.2 j (by omega)
    have hT : ∀ j, j < n → S.2 10 j = sp_tx (sp_tt q u) u j := fun j hj => (C.b (by omega)).trans (sp_tt_x q u hu2 (by omega)).symm
    have hp := sp_tt_p q u hu2 hn
    have hlen : (sp_ps (sp_tp q) n u).2.2.length ≤ (sp_ps (sp_tp q) n u).2.1 := by
      have := sp_pr_len (sp_by (sp_tp q) n) (sp_n0 u) (sp_n1 u) (sp_n2 u) 42 0 0 0
      rw [Nat.zero_add] at this
      exact this
    have hle : (sp_ps (sp_tp q) n u).2.1 ≤ n := by
      rw [← hp]
      exact (sp_pr_le (q := sp_tt q u) (u := u) (n := n) 42 0 0 0 (Nat.zero_le _)).2.1
    have eT : S.2 1 12 = nI n := (C.sc 4 (by decide) (by decide) (by decide)).trans e4
    have CF : ∀ S2 : wp_S, (∀ k j, k ≠ 65 → k ≠ 66 → S2.2 k j = S.2 k j) → CL (wp_u S2 1 12 (nI 0)) (sp_up q 4 (nI 0)) := fun S2 h2 => CL.w (C.fr (fun k j y => h2 k j (fun z => y (by unfold cW; omega)) (fun z => y (by unfold cW; omega)))) (j := 4) (by decide) (by decide) (by decide) (nI 0)
    have pos : (sp_ps (sp_tp q) n u).1 = true ∧ (sp_ps (sp_tp q) n u).2.1 = n → 1 ≤ (sp_ps (sp_tp q) n u).2.2.length := fun g => by
      have := sp_code_pos hu2 ((sp_wf_4 (sp_tt_wf hw hu2 hn e4 g) (n := 0) (by decide)).2.2.1 u hu2)
      have e6 : sp_up (sp_tt q u) 4 (nI 0) (6 + u) = nI n := (sp_up_ne _ _ (by omega)).trans ((sp_up_eq _ _ _).trans e4)
      unfold sp_code at this
      rw [e6, if_neg (nI_pos (by omega)), nI_clamp (by omega), sp_tx_up (by decide), hp] at this
      exact this
    have fin : ∀ (S2 : wp_S) (x : Int32), (∀ k j, k ≠ 65 → k ≠ 66 → S2.2 k j = S.2 k j) → ∀ k j, ¬ cX k j → (wp_u S2 1 12 x).2 k j = S.2 k j := fun S2 x h2 k j y => (wp_un (fun z => y (Or.inl (Or.inl ⟨by omega, by omega⟩)))).trans (h2 k j (fun z => y (Or.inl (Or.inr ⟨by omega, by omega⟩))) (fun z => y (Or.inl (Or.inr ⟨by omega, by omega⟩))))
    have KT : ∀ S2 : wp_S, (∀ k j, k ≠ 65 → k ≠ 66 → S2.2 k j = S.2 k j) → (∀ i x, (sp_ps (sp_tp q) n u).2.2[i]? = some x → S2.2 66 i = x) → (sp_ps (sp_tp q) n u).1 = true ∧ (sp_ps (sp_tp q) n u).2.1 = n → Q (some (.int (nI 1))) (wp_u (wp_cp (wp_u S2 1 12 (nI 0)) 66 (5 + 3 * u) 0 0 (sp_ps (sp_tp q) n u).2.2.length) (4 + 3 * u) 3 (nI (sp_ps (sp_tp q) n u).2.2.length)) := fun S2 h2 hc g => by
      rw [sp_if_t g] at K
      refine K _ (CL_text C hw hu2 hn e4 g h2 hc (by omega)) ?_ (fun k j y => ?_)
      · funext j
        show _ = S.2 90 j
        rw [wp_un (by omega), wp_cp2, if_neg (by omega), wp_un (by omega)]
        exact h2 90 j (by decide) (by decide)
      · rw [wp_un (fun z => y (Or.inl (Or.inl ⟨by omega, by omega⟩))), wp_cp2, if_neg (fun z => y (Or.inl (Or.inl ⟨by omega, by omega⟩)))]
        exact fin S2 _ h2 k j y
    have KF : ∀ S2 : wp_S, (∀ k j, k ≠ 65 → k ≠ 66 → S2.2 k j = S.2 k j) → ¬ ((sp_ps (sp_tp q) n u).1 = true ∧ (sp_ps (sp_tp q) n u).2.1 = n) → Q (some (.int (-10 - nI (sp_ps (sp_tp q) n u).2.1))) (wp_u S2 1 12 (nI 0)) := fun S2 h2 g => by
      rw [sp_if_f g] at K
      refine K _ (CF S2 h2) ?_ (fin S2 _ h2)
      funext j
      exact (wp_un (by omega)).trans (h2 90 j (by decide) (by decide))
    clear K
    rcases (show u = 0 ∨ u = 1 by omega) with rfl | rfl
    · refine cl_in ml_Fo_text rfl rfl ?_
      refine wp_iload_n d_Fo_text_0 rfl rfl ?_
      refine wp_iconst (x := nI 0) d_Fo_text_1 rfl ?_
      refine wp_iconst (x := nI 1) d_Fo_text_2 rfl ?_
      refine wp_invS d_Fo_text_3 ow_Fo_text lk_7_66 (by decide) mi_Fo_isWithin rfl rfl (Nat.le_of_ble_eq_true rfl) rfl (show h_Fo_isWithin ≤ _ from by decide) (c_isWithin _ _ _ ?_)
      refine wp_Ki ?_
      refine wp_ifB_ne (pc' := 15) d_Fo_text_6 (by decide) (fun h6 => ?_) (fun h6 => absurd h h6)
      refine wp_iload_n d_Fo_text_15 rfl rfl ?_
      refine wp_ifN_ne (pc' := 29) d_Fo_text_16 (by decide) (by omega) (fun q => absurd q (by decide)) (fun _ => ?_)
      refine wp_aload_n d_Fo_text_19 rfl rfl ?_
      refine wp_getR d_Fo_text_20 ow_Fo_text fl_7_10 (O_0 _) rfl ?_
      refine wp_getR d_Fo_text_23 ow_Fo_text fl_7_165 (O_1 _) rfl ?_
      refine wp_goto (pc' := 36) d_Fo_text_26 (by decide) ?_
      refine wp_aston2 d_Fo_text_36 rfl ?_
      refine wp_aload_n d_Fo_text_37 rfl rfl ?_
      refine wp_getR d_Fo_text_38 ow_Fo_text fl_7_28 (O_0 _) rfl ?_
      refine wp_aload_n d_Fo_text_41 rfl rfl ?_
      refine wp_getR d_Fo_text_42 ow_Fo_text fl_7_10 (O_0 _) rfl ?_
      refine wp_getI d_Fo_text_45 ow_Fo_text fl_7_162 (O_1 _) rfl (eT) ?_
      refine wp_aload_n d_Fo_text_48 rfl rfl ?_
      refine wp_getR d_Fo_text_49 ow_Fo_text fl_7_172 (O_4 _) rfl ?_
      refine wp_invV d_Fo_text_52 ow_Fo_text lk_7_178 (by decide) mi_Re_faultOf rfl rfl (Nat.le_of_ble_eq_true rfl) rfl (wp_isC (O_65 _)) (show h_Re_faultOf ≤ _ from by decide) (c_faultOf0 (q := sp_tt q 0) hn hB hT (fun S2 z1 z2 z3 => ⟨fun g => ?_, fun g => ?_⟩))
      · refine wp_Ki ?_
        rw [hp] at z2 z3 g
        have hps := pos g
        refine wp_iston3 d_Fo_text_55 rfl ?_
        refine wp_aload_n d_Fo_text_56 rfl rfl ?_
        refine wp_getR d_Fo_text_57 ow_Fo_text fl_7_10 (O_0 _) rfl ?_
        refine wp_iconst (x := nI 0) d_Fo_text_60 rfl ?_
        refine wp_put (ty := .int) d_Fo_text_61 ow_Fo_text fl_7_162 (by decide +kernel) (by decide +kernel) (O_1 _) rfl ⟨rfl, rfl⟩ ?_
        refine wp_iload_n d_Fo_text_64 rfl rfl ?_
        refine wp_if_lt (pc' := 73) d_Fo_text_65 (by decide) (fun h65 => ?_) (fun h65 => absurd (show (-1 : Int32) < 0 from by decide) h65)
        refine wp_aload_n d_Fo_text_73 rfl rfl ?_
        refine wp_aload_n d_Fo_text_74 rfl rfl ?_
        refine wp_getR d_Fo_text_75 ow_Fo_text fl_7_28 (O_0 _) rfl ?_
        refine wp_getR d_Fo_text_78 ow_Fo_text fl_7_182 (O_65 _) rfl ?_
        refine wp_aload_n d_Fo_text_81 rfl rfl ?_
        refine wp_getR d_Fo_text_82 ow_Fo_text fl_7_28 (O_0 _) rfl ?_
        refine wp_getI d_Fo_text_85 ow_Fo_text fl_7_185 (O_65 _) rfl ((wp_un (by omega)).trans z2) ?_
        refine wp_invV d_Fo_text_88 ow_Fo_text lk_7_188 (by decide) mi_Lw_takeOver rfl rfl (Nat.le_of_ble_eq_true rfl) rfl (wp_isC (O_4 _)) (show h_Lw_takeOver ≤ _ from by decide) (c_takeOver (c := 5) (st := 6) (fun S => Or.inl (O_4 S)) A_5 A_66 hps (by omega) ?_)
        refine wp_Kv ?_
        refine wp_iconst (x := nI 1) d_Fo_text_91 rfl ?_
        refine wp_reti d_Fo_text_92 rt_Fo_text ?_
        exact KT S2 z1 z3 g
      · refine wp_Ki ?_
        rw [hp] at g ⊢
        refine wp_iston3 d_Fo_text_55 rfl ?_
        refine wp_aload_n d_Fo_text_56 rfl rfl ?_
        refine wp_getR d_Fo_text_57 ow_Fo_text fl_7_10 (O_0 _) rfl ?_
        refine wp_iconst (x := nI 0) d_Fo_text_60 rfl ?_
        refine wp_put (ty := .int) d_Fo_text_61 ow_Fo_text fl_7_162 (by decide +kernel) (by decide +kernel) (O_1 _) rfl ⟨rfl, rfl⟩ ?_
        refine wp_iload_n d_Fo_text_64 rfl rfl ?_
        refine wp_ifN_lt (pc' := 73) d_Fo_text_65 (by decide) (by omega) ?_
        refine wp_bipush (x := -10) d_Fo_text_68 (by decide) ?_
        refine wp_iload_n d_Fo_text_70 rfl rfl ?_
        refine wp_isub d_Fo_text_71 rfl ?_
        refine wp_reti d_Fo_text_72 rt_Fo_text ?_
        exact KF S2 z1 g
    · refine cl_in ml_Fo_text rfl rfl ?_
      refine wp_iload_n d_Fo_text_0 rfl rfl ?_
      refine wp_iconst (x := nI 0) d_Fo_text_1 rfl ?_
      refine wp_iconst (x := nI 1) d_Fo_text_2 rfl ?_
      refine wp_invS d_Fo_text_3 ow_Fo_text lk_7_66 (by decide) mi_Fo_isWithin rfl rfl (Nat.le_of_ble_eq_true rfl) rfl (show h_Fo_isWithin ≤ _ from by decide) (c_isWithin _ _ _ ?_)
      refine wp_Ki ?_
      refine wp_ifB_ne (pc' := 15) d_Fo_text_6 (by decide) (fun h6 => ?_) (fun h6 => absurd h h6)
      refine wp_iload_n d_Fo_text_15 rfl rfl ?_
      refine wp_ifN_ne (pc' := 29) d_Fo_text_16 (by decide) (by omega) (fun _ => ?_) (fun q => absurd q (by decide))
      refine wp_aload_n d_Fo_text_29 rfl rfl ?_
      refine wp_getR d_Fo_text_30 ow_Fo_text fl_7_10 (O_0 _) rfl ?_
      refine wp_getR d_Fo_text_33 ow_Fo_text fl_7_169 (O_1 _) rfl ?_
      refine wp_aston2 d_Fo_text_36 rfl ?_
      refine wp_aload_n d_Fo_text_37 rfl rfl ?_
      refine wp_getR d_Fo_text_38 ow_Fo_text fl_7_28 (O_0 _) rfl ?_
      refine wp_aload_n d_Fo_text_41 rfl rfl ?_
      refine wp_getR d_Fo_text_42 ow_Fo_text fl_7_10 (O_0 _) rfl ?_
      refine wp_getI d_Fo_text_45 ow_Fo_text fl_7_162 (O_1 _) rfl (eT) ?_
      refine wp_aload_n d_Fo_text_48 rfl rfl ?_
      refine wp_getR d_Fo_text_49 ow_Fo_text fl_7_172 (O_7 _) rfl ?_
      refine wp_invV d_Fo_text_52 ow_Fo_text lk_7_178 (by decide) mi_Re_faultOf rfl rfl (Nat.le_of_ble_eq_true rfl) rfl (wp_isC (O_65 _)) (show h_Re_faultOf ≤ _ from by decide) (c_faultOf1 (q := sp_tt q 1) hn hB hT (fun S2 z1 z2 z3 => ⟨fun g => ?_, fun g => ?_⟩))
      · refine wp_Ki ?_
        rw [hp] at z2 z3 g
        have hps := pos g
        refine wp_iston3 d_Fo_text_55 rfl ?_
        refine wp_aload_n d_Fo_text_56 rfl rfl ?_
        refine wp_getR d_Fo_text_57 ow_Fo_text fl_7_10 (O_0 _) rfl ?_
        refine wp_iconst (x := nI 0) d_Fo_text_60 rfl ?_
        refine wp_put (ty := .int) d_Fo_text_61 ow_Fo_text fl_7_162 (by decide +kernel) (by decide +kernel) (O_1 _) rfl ⟨rfl, rfl⟩ ?_
        refine wp_iload_n d_Fo_text_64 rfl rfl ?_
        refine wp_if_lt (pc' := 73) d_Fo_text_65 (by decide) (fun h65 => ?_) (fun h65 => absurd (show (-1 : Int32) < 0 from by decide) h65)
        refine wp_aload_n d_Fo_text_73 rfl rfl ?_
        refine wp_aload_n d_Fo_text_74 rfl rfl ?_
        refine wp_getR d_Fo_text_75 ow_Fo_text fl_7_28 (O_0 _) rfl ?_
        refine wp_getR d_Fo_text_78 ow_Fo_text fl_7_182 (O_65 _) rfl ?_
        refine wp_aload_n d_Fo_text_81 rfl rfl ?_
        refine wp_getR d_Fo_text_82 ow_Fo_text fl_7_28 (O_0 _) rfl ?_
        refine wp_getI d_Fo_text_85 ow_Fo_text fl_7_185 (O_65 _) rfl ((wp_un (by omega)).trans z2) ?_
        refine wp_invV d_Fo_text_88 ow_Fo_text lk_7_188 (by decide) mi_Lw_takeOver rfl rfl (Nat.le_of_ble_eq_true rfl) rfl (wp_isC (O_7 _)) (show h_Lw_takeOver ≤ _ from by decide) (c_takeOver (c := 8) (st := 9) (fun S => Or.inr (O_7 S)) A_8 A_66 hps (by omega) ?_)
        refine wp_Kv ?_
        refine wp_iconst (x := nI 1) d_Fo_text_91 rfl ?_
        refine wp_reti d_Fo_text_92 rt_Fo_text ?_
        exact KT S2 z1 z3 g
      · refine wp_Ki ?_
        rw [hp] at g ⊢
        refine wp_iston3 d_Fo_text_55 rfl ?_
        refine wp_aload_n d_Fo_text_56 rfl rfl ?_
        refine wp_getR d_Fo_text_57 ow_Fo_text fl_7_10 (O_0 _) rfl ?_
        refine wp_iconst (x := nI 0) d_Fo_text_60 rfl ?_
        refine wp_put (ty := .int) d_Fo_text_61 ow_Fo_text fl_7_162 (by decide +kernel) (by decide +kernel) (O_1 _) rfl ⟨rfl, rfl⟩ ?_
        refine wp_iload_n d_Fo_text_64 rfl rfl ?_
        refine wp_ifN_lt (pc' := 73) d_Fo_text_65 (by decide) (by omega) ?_
        refine wp_bipush (x := -10) d_Fo_text_68 (by decide) ?_
        refine wp_iload_n d_Fo_text_70 rfl rfl ?_
        refine wp_isub d_Fo_text_71 rfl ?_
        refine wp_reti d_Fo_text_72 rt_Fo_text ?_
        exact KF S2 z1 g
  · rw [sp_if_f h] at K
    refine cl_in ml_Fo_text rfl rfl ?_
    refine wp_iload_n d_Fo_text_0 rfl rfl ?_
    refine wp_iconst (x := nI 0) d_Fo_text_1 rfl ?_
    refine wp_iconst (x := nI 1) d_Fo_text_2 rfl ?_
    refine wp_invS d_Fo_text_3 ow_Fo_text lk_7_66 (by decide) mi_Fo_isWithin rfl rfl (Nat.le_of_ble_eq_true rfl) rfl (show h_Fo_isWithin ≤ _ from by decide) (c_isWithin _ _ _ ?_)
    refine wp_Ki ?_
    refine wp_ifB_ne (pc' := 15) d_Fo_text_6 (by decide) (fun h6 => absurd h6 h) (fun h6 => ?_)
    refine wp_aload_n d_Fo_text_9 rfl rfl ?_
    refine wp_iconst (x := nI 1) d_Fo_text_10 rfl ?_
    refine wp_invV d_Fo_text_11 ow_Fo_text lk_7_70 (by decide) mi_Fo_error rfl rfl (Nat.le_of_ble_eq_true rfl) rfl (wp_isC (O_0 _)) (show h_Fo_error ≤ _ from by decide) (c_error 1 (by decide) (by decide) ?_)
    refine wp_Ki ?_
    refine wp_reti d_Fo_text_14 rt_Fo_text ?_
    exact cQ_er (e := 1) K (by decide) C fr.rf
end DA
