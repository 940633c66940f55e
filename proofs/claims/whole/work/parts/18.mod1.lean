/-! the reference: its small methods, and what MOWERS say -/
theorem i_nlt {x z : Int32} (h : x < z) : ¬ z ≤ x := Int32.not_le.mpr h
theorem i_nle {x z : Int32} (h : ¬ x < z) : z ≤ x := Int32.not_lt.mp h
theorem m_in {S : wp_S} {Q : Option Value → wp_S → Prop} (v a b : Int32) (k : Q (some (.int (bi (a ≤ v ∧ v ≤ b)))) S) : cl h_Mo_in y_Mo_in [.int v, .int a, .int b] S Q := by
  refine cl_in ml_Mo_in rfl rfl ?_
  refine wp_iload_n d_Mo_in_0 rfl rfl ?_
  refine wp_iload_n d_Mo_in_1 rfl rfl ?_
  refine wp_ic_lt (pc' := 14) d_Mo_in_2 (by decide) (fun h2 => ?_) (fun h2 => ?_)
  · refine wp_iconst (x := nI 0) d_Mo_in_14 rfl ?_
    refine wp_retz d_Mo_in_15 rt_Mo_in (by first | exact Or.inl rfl | exact Or.inr rfl) ?_
    exact lf_i (x := 0) (bi_f (fun q => i_nlt h2 q.1)).symm k
  · refine wp_iload_n d_Mo_in_5 rfl rfl ?_
    refine wp_iload_n d_Mo_in_6 rfl rfl ?_
    refine wp_ic_gt (pc' := 14) d_Mo_in_7 (by decide) (fun h7 => ?_) (fun h7 => ?_)
    · refine wp_iconst (x := nI 0) d_Mo_in_14 rfl ?_
      refine wp_retz d_Mo_in_15 rt_Mo_in (by first | exact Or.inl rfl | exact Or.inr rfl) ?_
      exact lf_i (x := 0) (bi_f (fun q => i_nlt h7 q.2)).symm k
    · refine wp_iconst (x := nI 1) d_Mo_in_10 rfl ?_
      refine wp_goto (pc' := 15) d_Mo_in_11 (by decide) ?_
      refine wp_retz d_Mo_in_15 rt_Mo_in (by first | exact Or.inl rfl | exact Or.inr rfl) ?_
      exact lf_i (x := 1) (bi_t ⟨i_nle h2, i_nle h7⟩).symm k
theorem m_errs {S : wp_S} {Q : Option Value → wp_S → Prop} (e : Int32) (j : Nat) (hj : j < 6) (he : (-1000000000 : Int32) - e = nI j) (k : Q (some (.int e)) (wp_u S k_Mo_found j (S.2 k_Mo_found j + nI 1))) : cl h_Mo_errs y_Mo_errs [.ref k_Mo, .int e] S Q := by
  refine cl_in ml_Mo_errs rfl rfl ?_
  refine wp_aload_n d_Mo_errs_0 rfl rfl ?_
  refine wp_getR d_Mo_errs_1 ow_Mo_errs fl_8_22 (O_91 _) rfl ?_
  refine wp_ldc (v := .int (-1000000000)) d_Mo_errs_4 ow_Mo_errs (by decide +kernel) ?_
  refine wp_iload_n d_Mo_errs_6 rfl rfl ?_
  refine wp_isub d_Mo_errs_7 (he) ?_
  refine wp_dup2 d_Mo_errs_8 ⟨rfl, rfl⟩ ?_
  refine wp_iaload d_Mo_errs_9 (A_96 _) (by omega) (by decide) (rfl) ?_
  refine wp_iconst (x := nI 1) d_Mo_errs_10 rfl ?_
  refine wp_iadd d_Mo_errs_11 rfl ?_
  refine wp_iastore d_Mo_errs_12 (A_96 _) (by omega) (by decide) ?_
  refine wp_iload_n d_Mo_errs_13 rfl rfl ?_
  refine wp_reti d_Mo_errs_14 rt_Mo_errs ?_
  exact k
theorem m_held {S : wp_S} {Q : Option Value → wp_S → Prop} (v a b : Int32) (k : Q (some (.int (sp_cl v a b))) S) : cl h_Mo_held y_Mo_held [.int v, .int a, .int b] S Q := by
  refine cl_in ml_Mo_held rfl rfl ?_
  refine wp_iload_n d_Mo_held_0 rfl rfl ?_
  refine wp_iload_n d_Mo_held_1 rfl rfl ?_
  refine wp_ic_ge (pc' := 9) d_Mo_held_2 (by decide) (fun h2 => ?_) (fun h2 => ?_)
  · refine wp_iload_n d_Mo_held_9 rfl rfl ?_
    refine wp_iload_n d_Mo_held_10 rfl rfl ?_
    refine wp_ic_le (pc' := 18) d_Mo_held_11 (by decide) (fun h11 => ?_) (fun h11 => ?_)
    · refine wp_iload_n d_Mo_held_18 rfl rfl ?_
      refine wp_reti d_Mo_held_19 rt_Mo_held ?_
      exact lf_i (by unfold sp_cl; rw [if_neg (fun q => i_nlt q h2), if_neg (fun q => i_nlt q h11)]) k
    · refine wp_iload_n d_Mo_held_14 rfl rfl ?_
      refine wp_goto (pc' := 19) d_Mo_held_15 (by decide) ?_
      refine wp_reti d_Mo_held_19 rt_Mo_held ?_
      exact lf_i (by unfold sp_cl; rw [if_neg (fun q => i_nlt q h2), if_pos (Int32.not_le.mp h11)]) k
  · refine wp_iload_n d_Mo_held_5 rfl rfl ?_
    refine wp_goto (pc' := 19) d_Mo_held_6 (by decide) ?_
    refine wp_reti d_Mo_held_19 rt_Mo_held ?_
    exact lf_i (by unfold sp_cl; rw [if_pos (Int32.not_le.mp h2)]) k
theorem m_isOwner {S : wp_S} {Q : Option Value → wp_S → Prop} (v : Int32) (k : Q (some (.int (bi (0 ≤ v ∧ v ≤ nI 3)))) S) : cl h_Mo_isOwner y_Mo_isOwner [.int v] S Q := by
  refine cl_in ml_Mo_isOwner rfl rfl ?_
  refine wp_iload_n d_Mo_isOwner_0 rfl rfl ?_
  refine wp_iconst (x := nI 0) d_Mo_isOwner_1 rfl ?_
  refine wp_iconst (x := nI 3) d_Mo_isOwner_2 rfl ?_
  refine wp_invS d_Mo_isOwner_3 ow_Mo_isOwner lk_8_54 (by decide) mi_Mo_in rfl rfl (Nat.le_of_ble_eq_true rfl) rfl (show h_Mo_in ≤ _ from by decide) (m_in _ _ _ ?_)
  refine wp_Ki ?_
  refine wp_ireturn d_Mo_isOwner_6 rt_Mo_isOwner ⟨Or.inr (Or.inl rfl), bi_nar⟩ ?_
  exact k
theorem m_isSheet {S : wp_S} {Q : Option Value → wp_S → Prop} (v : Int32) (k : Q (some (.int (bi (0 ≤ v ∧ v ≤ nI 3)))) S) : cl h_Mo_isSheet y_Mo_isSheet [.int v] S Q := by
  refine cl_in ml_Mo_isSheet rfl rfl ?_
  refine wp_iload_n d_Mo_isSheet_0 rfl rfl ?_
  refine wp_iconst (x := nI 0) d_Mo_isSheet_1 rfl ?_
  refine wp_iconst (x := nI 3) d_Mo_isSheet_2 rfl ?_
  refine wp_invS d_Mo_isSheet_3 ow_Mo_isSheet lk_8_54 (by decide) mi_Mo_in rfl rfl (Nat.le_of_ble_eq_true rfl) rfl (show h_Mo_in ≤ _ from by decide) (m_in _ _ _ ?_)
  refine wp_Ki ?_
  refine wp_ireturn d_Mo_isSheet_6 rt_Mo_isSheet ⟨Or.inr (Or.inl rfl), bi_nar⟩ ?_
  exact k
theorem m_its {S : wp_S} {Q : Option Value → wp_S → Prop} {q : sp_R} (hq : S.2 k_Mo_row = q) (i w : Nat) (h : 13 + 10 * i + w < 283) (k : Q (some (.int (q (13 + 10 * i + w)))) S) : cl h_Mo_its y_Mo_its [.ref k_Mo, .int (nI i), .int (nI w)] S Q := by
  subst hq
  refine cl_in ml_Mo_its rfl rfl ?_
  refine wp_aload_n d_Mo_its_0 rfl rfl ?_
  refine wp_getR d_Mo_its_1 ow_Mo_its fl_8_7 (O_91 _) rfl ?_
  refine wp_bipush (x := nI 13) d_Mo_its_4 (by decide) ?_
  refine wp_bipush (x := nI 10) d_Mo_its_6 (by decide) ?_
  refine wp_iload_n d_Mo_its_8 rfl rfl ?_
  refine wp_imul d_Mo_its_9 (pk_mul _ _) ?_
  refine wp_iadd d_Mo_its_10 (nI_add _ _) ?_
  refine wp_iload_n d_Mo_its_11 rfl rfl ?_
  refine wp_iadd d_Mo_its_12 (nI_add _ _) ?_
  refine wp_iaload d_Mo_its_13 (A_92 _) (by omega) (by decide) (rfl) ?_
  refine wp_reti d_Mo_its_14 rt_Mo_its ?_
  exact k
theorem m_puts {S : wp_S} {Q : Option Value → wp_S → Prop} (i w : Nat) (x : Int32) (h : 13 + 10 * i + w < 283) (k : Q none (wp_u S k_Mo_row (13 + 10 * i + w) x)) : cl h_Mo_puts y_Mo_puts [.ref k_Mo, .int (nI i), .int (nI w), .int x] S Q := by
  refine cl_in ml_Mo_puts rfl rfl ?_
  refine wp_aload_n d_Mo_puts_0 rfl rfl ?_
  refine wp_getR d_Mo_puts_1 ow_Mo_puts fl_8_7 (O_91 _) rfl ?_
  refine wp_bipush (x := nI 13) d_Mo_puts_4 (by decide) ?_
  refine wp_bipush (x := nI 10) d_Mo_puts_6 (by decide) ?_
  refine wp_iload_n d_Mo_puts_8 rfl rfl ?_
  refine wp_imul d_Mo_puts_9 (pk_mul _ _) ?_
  refine wp_iadd d_Mo_puts_10 (nI_add _ _) ?_
  refine wp_iload_n d_Mo_puts_11 rfl rfl ?_
  refine wp_iadd d_Mo_puts_12 (nI_add _ _) ?_
  refine wp_iload_n d_Mo_puts_13 rfl rfl ?_
  refine wp_iastore d_Mo_puts_14 (A_92 _) (by omega) (by decide) ?_
  refine wp_return d_Mo_puts_15 rt_Mo_puts ?_
  exact k
theorem i_fld {v : Int32} {n : Nat} (hn : n < 2 ^ 31) : (0 ≤ v ∧ v ≤ nI n - nI 1) ↔ ∃ i, i < n ∧ v = nI i := by
  constructor
  · rintro ⟨h1, h2⟩
    obtain ⟨j, hj, rfl⟩ := nI_of (x := v) (Int32.not_lt.mpr h1)
    refine ⟨j, ?_, rfl⟩
    by_cases h0 : n = 0
    · subst h0
      rw [Int32.le_iff_toInt_le, nI_toInt hj] at h2
      have : (nI 0 - nI 1).toInt = -1 := by decide
      omega
    · rw [pk_sub (show 1 ≤ n by omega)] at h2
      have := (nI_leI hj (by omega)).mp h2
      omega
  · rintro ⟨i, hi, rfl⟩
    refine ⟨nI_pos' (by omega), ?_⟩
    rw [pk_sub (show 1 ≤ n by omega)]
    exact (nI_leI (by omega) (by omega)).mpr (by omega)
theorem i_in {v : Int32} {n : Nat} (hn : n < 2 ^ 31) : (0 ≤ v ∧ v ≤ nI n) ↔ ∃ i, i ≤ n ∧ v = nI i := by
  constructor
  · rintro ⟨h1, h2⟩
    obtain ⟨j, hj, rfl⟩ := nI_of (x := v) (Int32.not_lt.mpr h1)
    exact ⟨j, (nI_leI hj hn).mp h2, rfl⟩
  · rintro ⟨i, hi, rfl⟩
    exact ⟨nI_pos' (by omega), (nI_leI (by omega) hn).mpr hi⟩
theorem m_isField {S : wp_S} {Q : Option Value → wp_S → Prop} {q : sp_R} (hq : S.2 k_Mo_row = q) (v : Int32) (k : Q (some (.int (bi (0 ≤ v ∧ v ≤ q 0 - nI 1)))) S) : cl h_Mo_isField y_Mo_isField [.ref k_Mo, .int v] S Q := by
  subst hq
  refine cl_in ml_Mo_isField rfl rfl ?_
  refine wp_iload_n d_Mo_isField_0 rfl rfl ?_
  refine wp_iconst (x := nI 0) d_Mo_isField_1 rfl ?_
  refine wp_aload_n d_Mo_isField_2 rfl rfl ?_
  refine wp_getR d_Mo_isField_3 ow_Mo_isField fl_8_7 (O_91 _) rfl ?_
  refine wp_iconst (x := nI 0) d_Mo_isField_6 rfl ?_
  refine wp_iaload d_Mo_isField_7 (A_92 _) (by omega) (by decide) (rfl) ?_
  refine wp_iconst (x := nI 1) d_Mo_isField_8 rfl ?_
  refine wp_isub d_Mo_isField_9 rfl ?_
  refine wp_invS d_Mo_isField_10 ow_Mo_isField lk_8_54 (by decide) mi_Mo_in rfl rfl (Nat.le_of_ble_eq_true rfl) rfl (show h_Mo_in ≤ _ from by decide) (m_in _ _ _ ?_)
  refine wp_Ki ?_
  refine wp_ireturn d_Mo_isField_13 rt_Mo_isField ⟨Or.inr (Or.inl rfl), bi_nar⟩ ?_
  exact k
theorem m_toldBy {S : wp_S} {Q : Option Value → wp_S → Prop} {q : sp_R} (hq : S.2 k_Mo_row = q) (i : Nat) (hi : i < 10) (k : Q (some (.int (sp_all q i))) S) : cl h_Mo_toldBy y_Mo_toldBy [.ref k_Mo, .int (nI i)] S Q := by
  refine cl_in ml_Mo_toldBy rfl rfl ?_
  refine wp_iconst (x := nI 0) d_Mo_toldBy_0 rfl ?_
  refine wp_iston2 d_Mo_toldBy_1 rfl ?_
  refine wp_iconst (x := nI 0) d_Mo_toldBy_2 rfl ?_
  refine wp_iston3 d_Mo_toldBy_3 rfl ?_
  refine wp_iload_n d_Mo_toldBy_4 rfl rfl ?_
  refine wp_iconst (x := nI 4) d_Mo_toldBy_5 rfl ?_
  refine wp_icN_ge (pc' := 27) d_Mo_toldBy_6 (by decide) (by omega) (by omega) (fun q => absurd q (by decide)) (fun _ => ?_)
  refine wp_iload_n d_Mo_toldBy_9 rfl rfl ?_
  refine wp_aload_n d_Mo_toldBy_10 rfl rfl ?_
  refine wp_iload_n d_Mo_toldBy_11 rfl rfl ?_
  refine wp_bipush (x := nI 6) d_Mo_toldBy_12 (by decide) ?_
  refine wp_iload_n d_Mo_toldBy_14 rfl rfl ?_
  refine wp_iadd d_Mo_toldBy_15 (nI_add _ _) ?_
  refine wp_invV d_Mo_toldBy_16 ow_Mo_toldBy lk_8_72 (by decide) mi_Mo_its rfl rfl (Nat.le_of_ble_eq_true rfl) rfl (wp_isC (O_91 _)) (show h_Mo_its ≤ _ from by decide) (m_its hq i _ (by omega) ?_)
  refine wp_Ki ?_
  refine wp_iadd d_Mo_toldBy_19 rfl ?_
  refine wp_iston2 d_Mo_toldBy_20 rfl ?_
  refine wp_iinc3 (v := nI 1) d_Mo_toldBy_21 rfl rfl ?_
  refine wp_goto (pc' := 4) d_Mo_toldBy_24 (by decide) ?_
  refine wp_iload_n d_Mo_toldBy_4 rfl rfl ?_
  refine wp_iconst (x := nI 4) d_Mo_toldBy_5 rfl ?_
  refine wp_icN_ge (pc' := 27) d_Mo_toldBy_6 (by decide) (by omega) (by omega) (fun q => absurd q (by decide)) (fun _ => ?_)
  refine wp_iload_n d_Mo_toldBy_9 rfl rfl ?_
  refine wp_aload_n d_Mo_toldBy_10 rfl rfl ?_
  refine wp_iload_n d_Mo_toldBy_11 rfl rfl ?_
  refine wp_bipush (x := nI 6) d_Mo_toldBy_12 (by decide) ?_
  refine wp_iload_n d_Mo_toldBy_14 rfl rfl ?_
  refine wp_iadd d_Mo_toldBy_15 (nI_add _ _) ?_
  refine wp_invV d_Mo_toldBy_16 ow_Mo_toldBy lk_8_72 (by decide) mi_Mo_its rfl rfl (Nat.le_of_ble_eq_true rfl) rfl (wp_isC (O_91 _)) (show h_Mo_its ≤ _ from by decide) (m_its hq i _ (by omega) ?_)
  refine wp_Ki ?_
  refine wp_iadd d_Mo_toldBy_19 rfl ?_
  refine wp_iston2 d_Mo_toldBy_20 rfl ?_
  refine wp_iinc3 (v := nI 2) d_Mo_toldBy_21 rfl rfl ?_
  refine wp_goto (pc' := 4) d_Mo_toldBy_24 (by decide) ?_
  refine wp_iload_n d_Mo_toldBy_4 rfl rfl ?_
  refine wp_iconst (x := nI 4) d_Mo_toldBy_5 rfl ?_
  refine wp_icN_ge (pc' := 27) d_Mo_toldBy_6 (by decide) (by omega) (by omega) (fun q => absurd q (by decide)) (fun _ => ?_)
  refine wp_iload_n d_Mo_toldBy_9 rfl rfl ?_
  refine wp_aload_n d_Mo_toldBy_10 rfl rfl ?_
  refine wp_iload_n d_Mo_toldBy_11 rfl rfl ?_
  refine wp_bipush (x := nI 6) d_Mo_toldBy_12 (by decide) ?_
  refine wp_iload_n d_Mo_toldBy_14 rfl rfl ?_
  refine wp_iadd d_Mo_toldBy_15 (nI_add _ _) ?_
  refine wp_invV d_Mo_toldBy_16 ow_Mo_toldBy lk_8_72 (by decide) mi_Mo_its rfl rfl (Nat.le_of_ble_eq_true rfl) rfl (wp_isC (O_91 _)) (show h_Mo_its ≤ _ from by decide) (m_its hq i _ (by omega) ?_)
  refine wp_Ki ?_
  refine wp_iadd d_Mo_toldBy_19 rfl ?_
  refine wp_iston2 d_Mo_toldBy_20 rfl ?_
  refine wp_iinc3 (v := nI 3) d_Mo_toldBy_21 rfl rfl ?_
  refine wp_goto (pc' := 4) d_Mo_toldBy_24 (by decide) ?_
  refine wp_iload_n d_Mo_toldBy_4 rfl rfl ?_
  refine wp_iconst (x := nI 4) d_Mo_toldBy_5 rfl ?_
  refine wp_icN_ge (pc' := 27) d_Mo_toldBy_6 (by decide) (by omega) (by omega) (fun q => absurd q (by decide)) (fun _ => ?_)
  refine wp_iload_n d_Mo_toldBy_9 rfl rfl ?_
  refine wp_aload_n d_Mo_toldBy_10 rfl rfl ?_
  refine wp_iload_n d_Mo_toldBy_11 rfl rfl ?_
  refine wp_bipush (x := nI 6) d_Mo_toldBy_12 (by decide) ?_
  refine wp_iload_n d_Mo_toldBy_14 rfl rfl ?_
  refine wp_iadd d_Mo_toldBy_15 (nI_add _ _) ?_
  refine wp_invV d_Mo_toldBy_16 ow_Mo_toldBy lk_8_72 (by decide) mi_Mo_its rfl rfl (Nat.le_of_ble_eq_true rfl) rfl (wp_isC (O_91 _)) (show h_Mo_its ≤ _ from by decide) (m_its hq i _ (by omega) ?_)
  refine wp_Ki ?_
  refine wp_iadd d_Mo_toldBy_19 rfl ?_
  refine wp_iston2 d_Mo_toldBy_20 rfl ?_
  refine wp_iinc3 (v := nI 4) d_Mo_toldBy_21 rfl rfl ?_
  refine wp_goto (pc' := 4) d_Mo_toldBy_24 (by decide) ?_
  refine wp_iload_n d_Mo_toldBy_4 rfl rfl ?_
  refine wp_iconst (x := nI 4) d_Mo_toldBy_5 rfl ?_
  refine wp_icN_ge (pc' := 27) d_Mo_toldBy_6 (by decide) (by omega) (by omega) (fun _ => ?_) (fun q => absurd q (by decide))
  refine wp_iload_n d_Mo_toldBy_27 rfl rfl ?_
  refine wp_reti d_Mo_toldBy_28 rt_Mo_toldBy ?_
  exact k
