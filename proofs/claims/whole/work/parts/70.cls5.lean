/-! the class: calls -/
section CE
variable {S : wp_S} {q : sp_R} {mu : Int32} {Q : Option Value → wp_S → Prop}
theorem c_tellings (C : CL S q) (hw : sp_wf q) (v w : Int32) (K : cQ S (op_tellings q v w) Q) : cl h_Fo_tellings y_Fo_tellings [.ref 0, .int v, .int w] S Q := by
  have hn := hw.n
  unfold op_tellings at K
  by_cases h : sp_isF q v ∧ sp_isW w 3
  · rw [sp_if_t h] at K
    obtain ⟨i, hi, rfl⟩ := sp_isF_of hw h.1
    obtain ⟨o, ho, rfl⟩ := (i_in (by decide)).mp h.2
    rw [nI_clamp (by omega), nI_clamp (by omega)] at K
    refine cl_in ml_Fo_tellings rfl rfl ?_
    refine wp_aload_n d_Fo_tellings_0 rfl rfl ?_
    refine wp_getR d_Fo_tellings_1 ow_Fo_tellings fl_7_10 (O_0 _) rfl ?_
    refine wp_iload_n d_Fo_tellings_4 rfl rfl ?_
    refine wp_invV d_Fo_tellings_5 ow_Fo_tellings lk_7_90 (by decide) mi_La_has rfl rfl (Nat.le_of_ble_eq_true rfl) rfl (wp_isC (O_1 _)) (show h_La_has ≤ _ from by decide) (c_has C _ ?_)
    refine wp_Ki ?_
    refine wp_ifB_eq (pc' := 18) d_Fo_tellings_8 (by decide) (fun h8 => absurd h.1 h8) (fun h8 => ?_)
    refine wp_iload_n d_Fo_tellings_11 rfl rfl ?_
    refine wp_invS d_Fo_tellings_12 ow_Fo_tellings lk_7_125 (by decide) mi_Fo_isOwner rfl rfl (Nat.le_of_ble_eq_true rfl) rfl (show h_Fo_isOwner ≤ _ from by decide) (c_isOwner _ ?_)
    refine wp_Ki ?_
    refine wp_ifB_ne (pc' := 24) d_Fo_tellings_15 (by decide) (fun h15 => ?_) (fun h15 => absurd h.2 h15)
    refine wp_aload_n d_Fo_tellings_24 rfl rfl ?_
    refine wp_getR d_Fo_tellings_25 ow_Fo_tellings fl_7_10 (O_0 _) rfl ?_
    refine wp_getR d_Fo_tellings_28 ow_Fo_tellings fl_7_77 (O_1 _) rfl ?_
    refine wp_iload_n d_Fo_tellings_31 rfl rfl ?_
    refine wp_aaload d_Fo_tellings_32 rfl (f_F (by omega)) (by decide) ?_
    refine wp_getR d_Fo_tellings_33 ow_Fo_tellings fl_7_128 (O_F _ (by omega)) rfl ?_
    refine wp_iload_n d_Fo_tellings_36 rfl rfl ?_
    refine wp_iaload d_Fo_tellings_37 (A_G _ (by omega)) (by omega) (by decide) (C.t (by omega) (by omega)) ?_
    refine wp_reti d_Fo_tellings_38 rt_Fo_tellings ?_
    exact cQ_ok K C fr.rf
  · rw [sp_if_f h] at K
    refine cl_in ml_Fo_tellings rfl rfl ?_
    refine wp_aload_n d_Fo_tellings_0 rfl rfl ?_
    refine wp_getR d_Fo_tellings_1 ow_Fo_tellings fl_7_10 (O_0 _) rfl ?_
    refine wp_iload_n d_Fo_tellings_4 rfl rfl ?_
    refine wp_invV d_Fo_tellings_5 ow_Fo_tellings lk_7_90 (by decide) mi_La_has rfl rfl (Nat.le_of_ble_eq_true rfl) rfl (wp_isC (O_1 _)) (show h_La_has ≤ _ from by decide) (c_has C _ ?_)
    refine wp_Ki ?_
    refine wp_ifB_eq (pc' := 18) d_Fo_tellings_8 (by decide) (fun h8 => ?_) (fun h8 => ?_)
    · refine wp_aload_n d_Fo_tellings_18 rfl rfl ?_
      refine wp_iconst (x := nI 1) d_Fo_tellings_19 rfl ?_
      refine wp_invV d_Fo_tellings_20 ow_Fo_tellings lk_7_70 (by decide) mi_Fo_error rfl rfl (Nat.le_of_ble_eq_true rfl) rfl (wp_isC (O_0 _)) (show h_Fo_error ≤ _ from by decide) (c_error 1 (by decide) (by decide) ?_)
      refine wp_Ki ?_
      refine wp_reti d_Fo_tellings_23 rt_Fo_tellings ?_
      exact cQ_er (e := 1) K (by decide) C fr.rf
    · refine wp_iload_n d_Fo_tellings_11 rfl rfl ?_
      refine wp_invS d_Fo_tellings_12 ow_Fo_tellings lk_7_125 (by decide) mi_Fo_isOwner rfl rfl (Nat.le_of_ble_eq_true rfl) rfl (show h_Fo_isOwner ≤ _ from by decide) (c_isOwner _ ?_)
      refine wp_Ki ?_
      refine wp_ifB_ne (pc' := 24) d_Fo_tellings_15 (by decide) (fun h15 => absurd ⟨h8, h15⟩ h) (fun h15 => ?_)
      refine wp_aload_n d_Fo_tellings_18 rfl rfl ?_
      refine wp_iconst (x := nI 1) d_Fo_tellings_19 rfl ?_
      refine wp_invV d_Fo_tellings_20 ow_Fo_tellings lk_7_70 (by decide) mi_Fo_error rfl rfl (Nat.le_of_ble_eq_true rfl) rfl (wp_isC (O_0 _)) (show h_Fo_error ≤ _ from by decide) (c_error 1 (by decide) (by decide) ?_)
      refine wp_Ki ?_
      refine wp_reti d_Fo_tellings_23 rt_Fo_tellings ?_
      exact cQ_er (e := 1) K (by decide) C fr.rf
theorem c_fear (C : CL S q) (o v : Int32) (K : cQ S (op_fear q o v) Q) : cl h_Fo_fear y_Fo_fear [.ref 0, .int o, .int v] S Q := by
  unfold op_fear at K
  by_cases h : sp_isW o 3 ∧ sp_isW v 9
  · rw [sp_if_t h] at K
    obtain ⟨o', ho, rfl⟩ := (i_in (by decide)).mp h.1
    rw [nI_clamp (by omega)] at K
    have C2 := C.w (j := 9 + o') (by omega) (by omega) (by omega) v
    rw [cc_9 (by omega)] at C2
    refine cl_in ml_Fo_fear rfl rfl ?_
    refine wp_iload_n d_Fo_fear_0 rfl rfl ?_
    refine wp_invS d_Fo_fear_1 ow_Fo_fear lk_7_125 (by decide) mi_Fo_isOwner rfl rfl (Nat.le_of_ble_eq_true rfl) rfl (show h_Fo_isOwner ≤ _ from by decide) (c_isOwner _ ?_)
    refine wp_Ki ?_
    refine wp_ifB_eq (pc' := 17) d_Fo_fear_4 (by decide) (fun h4 => absurd h.1 h4) (fun h4 => ?_)
    refine wp_iload_n d_Fo_fear_7 rfl rfl ?_
    refine wp_iconst (x := nI 0) d_Fo_fear_8 rfl ?_
    refine wp_bipush (x := nI 9) d_Fo_fear_9 (by decide) ?_
    refine wp_invS d_Fo_fear_11 ow_Fo_fear lk_7_66 (by decide) mi_Fo_isWithin rfl rfl (Nat.le_of_ble_eq_true rfl) rfl (show h_Fo_isWithin ≤ _ from by decide) (c_isWithin _ _ _ ?_)
    refine wp_Ki ?_
    refine wp_ifB_ne (pc' := 23) d_Fo_fear_14 (by decide) (fun h14 => ?_) (fun h14 => absurd h.2 h14)
    refine wp_aload_n d_Fo_fear_23 rfl rfl ?_
    refine wp_getR d_Fo_fear_24 ow_Fo_fear fl_7_10 (O_0 _) rfl ?_
    refine wp_getR d_Fo_fear_27 ow_Fo_fear fl_7_131 (O_1 _) rfl ?_
    refine wp_iload_n d_Fo_fear_30 rfl rfl ?_
    refine wp_iaload d_Fo_fear_31 (A_3 _) (by omega) (by decide) (C.q9 (by omega)) ?_
    refine wp_iston3 d_Fo_fear_32 rfl ?_
    refine wp_aload_n d_Fo_fear_33 rfl rfl ?_
    refine wp_getR d_Fo_fear_34 ow_Fo_fear fl_7_10 (O_0 _) rfl ?_
    refine wp_getR d_Fo_fear_37 ow_Fo_fear fl_7_131 (O_1 _) rfl ?_
    refine wp_iload_n d_Fo_fear_40 rfl rfl ?_
    refine wp_iload_n d_Fo_fear_41 rfl rfl ?_
    refine wp_iastore d_Fo_fear_42 (A_3 _) (by omega) (by decide) ?_
    refine wp_iload_n d_Fo_fear_43 rfl rfl ?_
    refine wp_reti d_Fo_fear_44 rt_Fo_fear ?_
    exact cQ_ok K C2 (fr.rf.up (Or.inl ⟨by decide, by decide⟩))
  · rw [sp_if_f h] at K
    refine cl_in ml_Fo_fear rfl rfl ?_
    refine wp_iload_n d_Fo_fear_0 rfl rfl ?_
    refine wp_invS d_Fo_fear_1 ow_Fo_fear lk_7_125 (by decide) mi_Fo_isOwner rfl rfl (Nat.le_of_ble_eq_true rfl) rfl (show h_Fo_isOwner ≤ _ from by decide) (c_isOwner _ ?_)
    refine wp_Ki ?_
    refine wp_ifB_eq (pc' := 17) d_Fo_fear_4 (by decide) (fun h4 => ?_) (fun h4 => ?_)
    · refine wp_aload_n d_Fo_fear_17 rfl rfl ?_
      refine wp_iconst (x := nI 1) d_Fo_fear_18 rfl ?_
      refine wp_invV d_Fo_fear_19 ow_Fo_fear lk_7_70 (by decide) mi_Fo_error rfl rfl (Nat.le_of_ble_eq_true rfl) rfl (wp_isC (O_0 _)) (show h_Fo_error ≤ _ from by decide) (c_error 1 (by decide) (by decide) ?_)
      refine wp_Ki ?_
      refine wp_reti d_Fo_fear_22 rt_Fo_fear ?_
      exact cQ_er (e := 1) K (by decide) C fr.rf
    · refine wp_iload_n d_Fo_fear_7 rfl rfl ?_
      refine wp_iconst (x := nI 0) d_Fo_fear_8 rfl ?_
      refine wp_bipush (x := nI 9) d_Fo_fear_9 (by decide) ?_
      refine wp_invS d_Fo_fear_11 ow_Fo_fear lk_7_66 (by decide) mi_Fo_isWithin rfl rfl (Nat.le_of_ble_eq_true rfl) rfl (show h_Fo_isWithin ≤ _ from by decide) (c_isWithin _ _ _ ?_)
      refine wp_Ki ?_
      refine wp_ifB_ne (pc' := 23) d_Fo_fear_14 (by decide) (fun h14 => absurd ⟨h4, h14⟩ h) (fun h14 => ?_)
      refine wp_aload_n d_Fo_fear_17 rfl rfl ?_
      refine wp_iconst (x := nI 1) d_Fo_fear_18 rfl ?_
      refine wp_invV d_Fo_fear_19 ow_Fo_fear lk_7_70 (by decide) mi_Fo_error rfl rfl (Nat.le_of_ble_eq_true rfl) rfl (wp_isC (O_0 _)) (show h_Fo_error ≤ _ from by decide) (c_error 1 (by decide) (by decide) ?_)
      refine wp_Ki ?_
      refine wp_reti d_Fo_fear_22 rt_Fo_fear ?_
      exact cQ_er (e := 1) K (by decide) C fr.rf
theorem c_pace (C : CL S q) (v : Int32) (K : cQ S (op_pace q v) Q) : cl h_Fo_pace y_Fo_pace [.ref 0, .int v] S Q := by
  unfold op_pace at K
  have C2 := C.w (j := 8) (by omega) (by omega) (by omega) v
  by_cases h : nI 1 ≤ v ∧ v ≤ nI 20
  · rw [sp_if_t h] at K
    refine cl_in ml_Fo_pace rfl rfl ?_
    refine wp_iload_n d_Fo_pace_0 rfl rfl ?_
    refine wp_iconst (x := nI 1) d_Fo_pace_1 rfl ?_
    refine wp_bipush (x := nI 20) d_Fo_pace_2 (by decide) ?_
    refine wp_invS d_Fo_pace_4 ow_Fo_pace lk_7_66 (by decide) mi_Fo_isWithin rfl rfl (Nat.le_of_ble_eq_true rfl) rfl (show h_Fo_isWithin ≤ _ from by decide) (c_isWithin _ _ _ ?_)
    refine wp_Ki ?_
    refine wp_ifB_ne (pc' := 16) d_Fo_pace_7 (by decide) (fun h7 => ?_) (fun h7 => absurd h h7)
    refine wp_aload_n d_Fo_pace_16 rfl rfl ?_
    refine wp_getR d_Fo_pace_17 ow_Fo_pace fl_7_10 (O_0 _) rfl ?_
    refine wp_getI d_Fo_pace_20 ow_Fo_pace fl_7_147 (O_1 _) rfl (C.sc 8 (by decide) (by decide) (by decide)) ?_
    refine wp_iston2 d_Fo_pace_23 rfl ?_
    refine wp_aload_n d_Fo_pace_24 rfl rfl ?_
    refine wp_getR d_Fo_pace_25 ow_Fo_pace fl_7_10 (O_0 _) rfl ?_
    refine wp_iload_n d_Fo_pace_28 rfl rfl ?_
    refine wp_put (ty := .int) d_Fo_pace_29 ow_Fo_pace fl_7_147 (by decide +kernel) (by decide +kernel) (O_1 _) rfl ⟨rfl, rfl⟩ ?_
    refine wp_iload_n d_Fo_pace_32 rfl rfl ?_
    refine wp_reti d_Fo_pace_33 rt_Fo_pace ?_
    exact cQ_ok K C2 (fr.rf.up (Or.inl ⟨by decide, by decide⟩))
  · rw [sp_if_f h] at K
    refine cl_in ml_Fo_pace rfl rfl ?_
    refine wp_iload_n d_Fo_pace_0 rfl rfl ?_
    refine wp_iconst (x := nI 1) d_Fo_pace_1 rfl ?_
    refine wp_bipush (x := nI 20) d_Fo_pace_2 (by decide) ?_
    refine wp_invS d_Fo_pace_4 ow_Fo_pace lk_7_66 (by decide) mi_Fo_isWithin rfl rfl (Nat.le_of_ble_eq_true rfl) rfl (show h_Fo_isWithin ≤ _ from by decide) (c_isWithin _ _ _ ?_)
    refine wp_Ki ?_
    refine wp_ifB_ne (pc' := 16) d_Fo_pace_7 (by decide) (fun h7 => absurd h7 h) (fun h7 => ?_)
    refine wp_aload_n d_Fo_pace_10 rfl rfl ?_
    refine wp_iconst (x := nI 1) d_Fo_pace_11 rfl ?_
    refine wp_invV d_Fo_pace_12 ow_Fo_pace lk_7_70 (by decide) mi_Fo_error rfl rfl (Nat.le_of_ble_eq_true rfl) rfl (wp_isC (O_0 _)) (show h_Fo_error ≤ _ from by decide) (c_error 1 (by decide) (by decide) ?_)
    refine wp_Ki ?_
    refine wp_reti d_Fo_pace_15 rt_Fo_pace ?_
    exact cQ_er (e := 1) K (by decide) C fr.rf
theorem c_seed (C : CL S q) (v : Int32) (K : cQ S (op_seed q v) Q) : cl h_Fo_seed y_Fo_seed [.ref 0, .int v] S Q := by
  have C2 := C.w (j := 3) (by omega) (by omega) (by omega) v
  refine cl_in ml_Fo_seed rfl rfl ?_
  refine wp_aload_n d_Fo_seed_0 rfl rfl ?_
  refine wp_getR d_Fo_seed_1 ow_Fo_seed fl_7_10 (O_0 _) rfl ?_
  refine wp_getI d_Fo_seed_4 ow_Fo_seed fl_7_237 (O_1 _) rfl (C.sc 3 (by decide) (by decide) (by decide)) ?_
  refine wp_iston2 d_Fo_seed_7 rfl ?_
  refine wp_aload_n d_Fo_seed_8 rfl rfl ?_
  refine wp_getR d_Fo_seed_9 ow_Fo_seed fl_7_10 (O_0 _) rfl ?_
  refine wp_iload_n d_Fo_seed_12 rfl rfl ?_
  refine wp_put (ty := .int) d_Fo_seed_13 ow_Fo_seed fl_7_237 (by decide +kernel) (by decide +kernel) (O_1 _) rfl ⟨rfl, rfl⟩ ?_
  refine wp_iload_n d_Fo_seed_16 rfl rfl ?_
  refine wp_reti d_Fo_seed_17 rt_Fo_seed ?_
  exact cQ_ok K C2 (fr.rf.up (Or.inl ⟨by decide, by decide⟩))
theorem c_become (C : CL S q) (hw : sp_wf q) (v w : Int32) (K : cQ S (op_become q v w) Q) : cl h_Fo_become y_Fo_become [.ref 0, .int v, .int w] S Q := by
  have hn := hw.n
  unfold op_become at K
  by_cases h : sp_isF q v ∧ sp_isW w 69
  · rw [sp_if_t h] at K
    obtain ⟨i, hi, rfl⟩ := sp_isF_of hw h.1
    obtain ⟨o, ho, rfl⟩ := (i_in (by decide)).mp h.2
    rw [nI_clamp (by omega), nI_clamp (by omega)] at K
    have C2 := (C.wf (i := i) (by omega) (w := 0) (by decide) (nI (o / 10))).wf (i := i) (by omega) (w := 1) (by decide) (nI (o % 10))
    refine cl_in ml_Fo_become rfl rfl ?_
    refine wp_aload_n d_Fo_become_0 rfl rfl ?_
    refine wp_getR d_Fo_become_1 ow_Fo_become fl_7_10 (O_0 _) rfl ?_
    refine wp_iload_n d_Fo_become_4 rfl rfl ?_
    refine wp_invV d_Fo_become_5 ow_Fo_become lk_7_90 (by decide) mi_La_has rfl rfl (Nat.le_of_ble_eq_true rfl) rfl (wp_isC (O_1 _)) (show h_La_has ≤ _ from by decide) (c_has C _ ?_)
    refine wp_Ki ?_
    refine wp_ifB_eq (pc' := 18) d_Fo_become_8 (by decide) (fun h8 => absurd h.1 h8) (fun h8 => ?_)
    refine wp_iload_n d_Fo_become_11 rfl rfl ?_
    refine wp_invS d_Fo_become_12 ow_Fo_become lk_7_62 (by decide) mi_Fo_isKm rfl rfl (Nat.le_of_ble_eq_true rfl) rfl (show h_Fo_isKm ≤ _ from by decide) (c_isKm _ ?_)
    refine wp_Ki ?_
    refine wp_ifB_ne (pc' := 24) d_Fo_become_15 (by decide) (fun h15 => ?_) (fun h15 => absurd h.2 h15)
    refine wp_aload_n d_Fo_become_24 rfl rfl ?_
    refine wp_getR d_Fo_become_25 ow_Fo_become fl_7_10 (O_0 _) rfl ?_
    refine wp_getR d_Fo_become_28 ow_Fo_become fl_7_77 (O_1 _) rfl ?_
    refine wp_iload_n d_Fo_become_31 rfl rfl ?_
    refine wp_aaload d_Fo_become_32 rfl (f_F (by omega)) (by decide) ?_
    refine wp_aston3 d_Fo_become_33 rfl ?_
    refine wp_aload_n d_Fo_become_34 rfl rfl ?_
    refine wp_getI d_Fo_become_35 ow_Fo_become fl_7_93 (O_F _ (by omega)) rfl (C.f (by omega) (w := 0) (by decide)) ?_
    refine wp_isto4 d_Fo_become_38 rfl ?_
    refine wp_aload_n d_Fo_become_40 rfl rfl ?_
    refine wp_iload_n d_Fo_become_41 rfl rfl ?_
    refine wp_bipush (x := nI 10) d_Fo_become_42 (by decide) ?_
    refine wp_idivN d_Fo_become_44 (by omega) (by omega) (by omega) ?_
    refine wp_put (ty := .int) d_Fo_become_45 ow_Fo_become fl_7_93 (by decide +kernel) (by decide +kernel) (O_F _ (by omega)) rfl ⟨rfl, rfl⟩ ?_
    refine wp_aload_n d_Fo_become_48 rfl rfl ?_
    refine wp_iload_n d_Fo_become_49 rfl rfl ?_
    refine wp_bipush (x := nI 10) d_Fo_become_50 (by decide) ?_
    refine wp_iremN d_Fo_become_52 (by omega) (by omega) (by omega) ?_
    refine wp_put (ty := .int) d_Fo_become_53 ow_Fo_become fl_7_96 (by decide +kernel) (by decide +kernel) (O_F _ (by omega)) rfl ⟨rfl, rfl⟩ ?_
    refine wp_iload d_Fo_become_56 rfl ?_
    refine wp_reti d_Fo_become_58 rt_Fo_become ?_
    exact cQ_ok K C2 ((fr.rf.up (Or.inl ⟨by omega, by omega⟩)).up (Or.inl ⟨by omega, by omega⟩))
  · rw [sp_if_f h] at K
    refine cl_in ml_Fo_become rfl rfl ?_
    refine wp_aload_n d_Fo_become_0 rfl rfl ?_
    refine wp_getR d_Fo_become_1 ow_Fo_become fl_7_10 (O_0 _) rfl ?_
    refine wp_iload_n d_Fo_become_4 rfl rfl ?_
    refine wp_invV d_Fo_become_5 ow_Fo_become lk_7_90 (by decide) mi_La_has rfl rfl (Nat.le_of_ble_eq_true rfl) rfl (wp_isC (O_1 _)) (show h_La_has ≤ _ from by decide) (c_has C _ ?_)
    refine wp_Ki ?_
    refine wp_ifB_eq (pc' := 18) d_Fo_become_8 (by decide) (fun h8 => ?_) (fun h8 => ?_)
    · refine wp_aload_n d_Fo_become_18 rfl rfl ?_
      refine wp_iconst (x := nI 1) d_Fo_become_19 rfl ?_
      refine wp_invV d_Fo_become_20 ow_Fo_become lk_7_70 (by decide) mi_Fo_error rfl rfl (Nat.le_of_ble_eq_true rfl) rfl (wp_isC (O_0 _)) (show h_Fo_error ≤ _ from by decide) (c_error 1 (by decide) (by decide) ?_)
      refine wp_Ki ?_
      refine wp_reti d_Fo_become_23 rt_Fo_become ?_
      exact cQ_er (e := 1) K (by decide) C fr.rf
    · refine wp_iload_n d_Fo_become_11 rfl rfl ?_
      refine wp_invS d_Fo_become_12 ow_Fo_become lk_7_62 (by decide) mi_Fo_isKm rfl rfl (Nat.le_of_ble_eq_true rfl) rfl (show h_Fo_isKm ≤ _ from by decide) (c_isKm _ ?_)
      refine wp_Ki ?_
      refine wp_ifB_ne (pc' := 24) d_Fo_become_15 (by decide) (fun h15 => absurd ⟨h8, h15⟩ h) (fun h15 => ?_)
      refine wp_aload_n d_Fo_become_18 rfl rfl ?_
      refine wp_iconst (x := nI 1) d_Fo_become_19 rfl ?_
      refine wp_invV d_Fo_become_20 ow_Fo_become lk_7_70 (by decide) mi_Fo_error rfl rfl (Nat.le_of_ble_eq_true rfl) rfl (wp_isC (O_0 _)) (show h_Fo_error ≤ _ from by decide) (c_error 1 (by decide) (by decide) ?_)
      refine wp_Ki ?_
      refine wp_reti d_Fo_become_23 rt_Fo_become ?_
      exact cQ_er (e := 1) K (by decide) C fr.rf
theorem c_tells (C : CL S q) (hw : sp_wf q) (o v : Int32) (K : cQ S (op_tells q o v) Q) : cl h_Fo_tells y_Fo_tells [.ref 0, .int o, .int v] S Q := by
  have hn := hw.n
  unfold op_tells at K
  by_cases h : sp_isW o 3 ∧ sp_isF q v
  · rw [sp_if_t h] at K
    obtain ⟨i, hi, rfl⟩ := sp_isF_of hw h.2
    obtain ⟨o', ho, rfl⟩ := (i_in (by decide)).mp h.1
    rw [nI_clamp (by omega), nI_clamp (by omega)] at K
    by_cases h9 : sp_told q i o' < nI 9 ∧ q 1 < nI 9999
    · rw [sp_if_t h9] at K
      refine cl_in ml_Fo_tells rfl rfl ?_
      refine wp_iload_n d_Fo_tells_0 rfl rfl ?_
      refine wp_invS d_Fo_tells_1 ow_Fo_tells lk_7_125 (by decide) mi_Fo_isOwner rfl rfl (Nat.le_of_ble_eq_true rfl) rfl (show h_Fo_isOwner ≤ _ from by decide) (c_isOwner _ ?_)
      refine wp_Ki ?_
      refine wp_ifB_eq (pc' := 18) d_Fo_tells_4 (by decide) (fun h4 => absurd h.1 h4) (fun h4 => ?_)
      refine wp_aload_n d_Fo_tells_7 rfl rfl ?_
      refine wp_getR d_Fo_tells_8 ow_Fo_tells fl_7_10 (O_0 _) rfl ?_
      refine wp_iload_n d_Fo_tells_11 rfl rfl ?_
      refine wp_invV d_Fo_tells_12 ow_Fo_tells lk_7_90 (by decide) mi_La_has rfl rfl (Nat.le_of_ble_eq_true rfl) rfl (wp_isC (O_1 _)) (show h_La_has ≤ _ from by decide) (c_has C _ ?_)
      refine wp_Ki ?_
      refine wp_ifB_ne (pc' := 24) d_Fo_tells_15 (by decide) (fun h15 => ?_) (fun h15 => absurd h.2 h15)
      refine wp_aload_n d_Fo_tells_24 rfl rfl ?_
      refine wp_getR d_Fo_tells_25 ow_Fo_tells fl_7_10 (O_0 _) rfl ?_
      refine wp_iload_n d_Fo_tells_28 rfl rfl ?_
      refine wp_iload_n d_Fo_tells_29 rfl rfl ?_
      refine wp_invV d_Fo_tells_30 ow_Fo_tells lk_7_153 (by decide) mi_La_refuses rfl rfl (Nat.le_of_ble_eq_true rfl) rfl (wp_isC (O_1 _)) (show h_La_refuses ≤ _ from by decide) (c_refuses C (by omega) (by omega) ?_)
      refine wp_Ki ?_
      refine wp_ifB_eq (pc' := 42) d_Fo_tells_33 (by decide) (fun h33 => ?_) (fun h33 => absurd h9 h33)
      refine wp_aload_n d_Fo_tells_42 rfl rfl ?_
      refine wp_getR d_Fo_tells_43 ow_Fo_tells fl_7_10 (O_0 _) rfl ?_
      refine wp_iload_n d_Fo_tells_46 rfl rfl ?_
      refine wp_iload_n d_Fo_tells_47 rfl rfl ?_
      refine wp_invV d_Fo_tells_48 ow_Fo_tells lk_7_156 (by decide) mi_La_hearOut rfl rfl (Nat.le_of_ble_eq_true rfl) rfl (wp_isC (O_1 _)) (show h_La_hearOut ≤ _ from by decide) (c_hearOut C hw h9.2 (by omega) hi (fun S2 C2 f2 => ?_))
      refine wp_Kv ?_
      refine wp_aload_n d_Fo_tells_51 rfl rfl ?_
      refine wp_getR d_Fo_tells_52 ow_Fo_tells fl_7_10 (O_0 _) rfl ?_
      refine wp_iload_n d_Fo_tells_55 rfl rfl ?_
      refine wp_iconst (x := -1) d_Fo_tells_56 rfl ?_
      refine wp_invV d_Fo_tells_57 ow_Fo_tells lk_7_115 (by decide) mi_La_ownerOf rfl rfl (Nat.le_of_ble_eq_true rfl) rfl (wp_isC (O_1 _)) (show h_La_ownerOf ≤ _ from by decide) (c_ownerOf C2 (sp_tl_wf hw (-1) hi (by omega) h9.2) (-1) i (by rw [sp_tl_n q (-1) o' i (by omega)]; exact hi) (fun S3 f3 => ?_))
      refine wp_Ki ?_
      refine wp_reti d_Fo_tells_60 rt_Fo_tells ?_
      exact cQ_ok K (CL_st C2 f3) (fr_YL (f2.tr (fr_LS f3)))
    · rw [sp_if_f h9] at K
      refine cl_in ml_Fo_tells rfl rfl ?_
      refine wp_iload_n d_Fo_tells_0 rfl rfl ?_
      refine wp_invS d_Fo_tells_1 ow_Fo_tells lk_7_125 (by decide) mi_Fo_isOwner rfl rfl (Nat.le_of_ble_eq_true rfl) rfl (show h_Fo_isOwner ≤ _ from by decide) (c_isOwner _ ?_)
      refine wp_Ki ?_
      refine wp_ifB_eq (pc' := 18) d_Fo_tells_4 (by decide) (fun h4 => absurd h.1 h4) (fun h4 => ?_)
      refine wp_aload_n d_Fo_tells_7 rfl rfl ?_
      refine wp_getR d_Fo_tells_8 ow_Fo_tells fl_7_10 (O_0 _) rfl ?_
      refine wp_iload_n d_Fo_tells_11 rfl rfl ?_
      refine wp_invV d_Fo_tells_12 ow_Fo_tells lk_7_90 (by decide) mi_La_has rfl rfl (Nat.le_of_ble_eq_true rfl) rfl (wp_isC (O_1 _)) (show h_La_has ≤ _ from by decide) (c_has C _ ?_)
      refine wp_Ki ?_
      refine wp_ifB_ne (pc' := 24) d_Fo_tells_15 (by decide) (fun h15 => ?_) (fun h15 => absurd h.2 h15)
      refine wp_aload_n d_Fo_tells_24 rfl rfl ?_
      refine wp_getR d_Fo_tells_25 ow_Fo_tells fl_7_10 (O_0 _) rfl ?_
      refine wp_iload_n d_Fo_tells_28 rfl rfl ?_
      refine wp_iload_n d_Fo_tells_29 rfl rfl ?_
      refine wp_invV d_Fo_tells_30 ow_Fo_tells lk_7_153 (by decide) mi_La_refuses rfl rfl (Nat.le_of_ble_eq_true rfl) rfl (wp_isC (O_1 _)) (show h_La_refuses ≤ _ from by decide) (c_refuses C (by omega) (by omega) ?_)
      refine wp_Ki ?_
      refine wp_ifB_eq (pc' := 42) d_Fo_tells_33 (by decide) (fun h33 => absurd h9 h33) (fun h33 => ?_)
      refine wp_aload_n d_Fo_tells_36 rfl rfl ?_
      refine wp_iconst (x := nI 3) d_Fo_tells_37 rfl ?_
      refine wp_invV d_Fo_tells_38 ow_Fo_tells lk_7_70 (by decide) mi_Fo_error rfl rfl (Nat.le_of_ble_eq_true rfl) rfl (wp_isC (O_0 _)) (show h_Fo_error ≤ _ from by decide) (c_error 3 (by decide) (by decide) ?_)
      refine wp_Ki ?_
      refine wp_reti d_Fo_tells_41 rt_Fo_tells ?_
      exact cQ_er (e := 3) K (by decide) C fr.rf
  · rw [sp_if_f h] at K
    refine cl_in ml_Fo_tells rfl rfl ?_
    refine wp_iload_n d_Fo_tells_0 rfl rfl ?_
    refine wp_invS d_Fo_tells_1 ow_Fo_tells lk_7_125 (by decide) mi_Fo_isOwner rfl rfl (Nat.le_of_ble_eq_true rfl) rfl (show h_Fo_isOwner ≤ _ from by decide) (c_isOwner _ ?_)
    refine wp_Ki ?_
    refine wp_ifB_eq (pc' := 18) d_Fo_tells_4 (by decide) (fun h4 => ?_) (fun h4 => ?_)
    · refine wp_aload_n d_Fo_tells_18 rfl rfl ?_
      refine wp_iconst (x := nI 1) d_Fo_tells_19 rfl ?_
      refine wp_invV d_Fo_tells_20 ow_Fo_tells lk_7_70 (by decide) mi_Fo_error rfl rfl (Nat.le_of_ble_eq_true rfl) rfl (wp_isC (O_0 _)) (show h_Fo_error ≤ _ from by decide) (c_error 1 (by decide) (by decide) ?_)
      refine wp_Ki ?_
      refine wp_reti d_Fo_tells_23 rt_Fo_tells ?_
      exact cQ_er (e := 1) K (by decide) C fr.rf
    · refine wp_aload_n d_Fo_tells_7 rfl rfl ?_
      refine wp_getR d_Fo_tells_8 ow_Fo_tells fl_7_10 (O_0 _) rfl ?_
      refine wp_iload_n d_Fo_tells_11 rfl rfl ?_
      refine wp_invV d_Fo_tells_12 ow_Fo_tells lk_7_90 (by decide) mi_La_has rfl rfl (Nat.le_of_ble_eq_true rfl) rfl (wp_isC (O_1 _)) (show h_La_has ≤ _ from by decide) (c_has C _ ?_)
      refine wp_Ki ?_
      refine wp_ifB_ne (pc' := 24) d_Fo_tells_15 (by decide) (fun h15 => absurd ⟨h4, h15⟩ h) (fun h15 => ?_)
      refine wp_aload_n d_Fo_tells_18 rfl rfl ?_
      refine wp_iconst (x := nI 1) d_Fo_tells_19 rfl ?_
      refine wp_invV d_Fo_tells_20 ow_Fo_tells lk_7_70 (by decide) mi_Fo_error rfl rfl (Nat.le_of_ble_eq_true rfl) rfl (wp_isC (O_0 _)) (show h_Fo_error ≤ _ from by decide) (c_error 1 (by decide) (by decide) ?_)
      refine wp_Ki ?_
      refine wp_reti d_Fo_tells_23 rt_Fo_tells ?_
      exact cQ_er (e := 1) K (by decide) C fr.rf
theorem c_forgets (C : CL S q) (hw : sp_wf q) (v : Int32) (K : cQ S (op_forgets q v) Q) : cl h_Fo_forgets y_Fo_forgets [.ref 0, .int v] S Q := by
  have hn := hw.n
  unfold op_forgets at K
  by_cases h : sp_isF q v
  · rw [sp_if_t h] at K
    obtain ⟨i, hi, rfl⟩ := sp_isF_of hw h
    rw [nI_clamp (by omega)] at K
    refine cl_in ml_Fo_forgets rfl rfl ?_
    refine wp_aload_n d_Fo_forgets_0 rfl rfl ?_
    refine wp_getR d_Fo_forgets_1 ow_Fo_forgets fl_7_10 (O_0 _) rfl ?_
    refine wp_iload_n d_Fo_forgets_4 rfl rfl ?_
    refine wp_invV d_Fo_forgets_5 ow_Fo_forgets lk_7_90 (by decide) mi_La_has rfl rfl (Nat.le_of_ble_eq_true rfl) rfl (wp_isC (O_1 _)) (show h_La_has ≤ _ from by decide) (c_has C _ ?_)
    refine wp_Ki ?_
    refine wp_ifB_ne (pc' := 17) d_Fo_forgets_8 (by decide) (fun h8 => ?_) (fun h8 => absurd h h8)
    refine wp_aload_n d_Fo_forgets_17 rfl rfl ?_
    refine wp_getR d_Fo_forgets_18 ow_Fo_forgets fl_7_10 (O_0 _) rfl ?_
    refine wp_getR d_Fo_forgets_21 ow_Fo_forgets fl_7_77 (O_1 _) rfl ?_
    refine wp_iload_n d_Fo_forgets_24 rfl rfl ?_
    refine wp_aaload d_Fo_forgets_25 rfl (f_F (by omega)) (by decide) ?_
    refine wp_aston2 d_Fo_forgets_26 rfl ?_
    refine wp_aload_n d_Fo_forgets_27 rfl rfl ?_
    refine wp_invV d_Fo_forgets_28 ow_Fo_forgets lk_7_121 (by decide) mi_Fi_toldByAll rfl rfl (Nat.le_of_ble_eq_true rfl) rfl (wp_isC (O_F _ (by omega))) (show h_Fi_toldByAll ≤ _ from by decide) (c_toldByAll C (by omega) ?_)
    refine wp_Ki ?_
    refine wp_iston3 d_Fo_forgets_31 rfl ?_
    refine wp_aload_n d_Fo_forgets_32 rfl rfl ?_
    refine wp_invV d_Fo_forgets_33 ow_Fo_forgets lk_7_150 (by decide) mi_Fi_loseAllTold rfl rfl (Nat.le_of_ble_eq_true rfl) rfl (wp_isC (O_F _ (by omega))) (show h_Fi_loseAllTold ≤ _ from by decide) (c_lose C (by omega) (fun S2 C2 f2 => ?_))
    refine wp_Kv ?_
    refine wp_iload_n d_Fo_forgets_36 rfl rfl ?_
    refine wp_reti d_Fo_forgets_37 rt_Fo_forgets ?_
    exact cQ_ok K C2 (fr_YL f2)
  · rw [sp_if_f h] at K
    refine cl_in ml_Fo_forgets rfl rfl ?_
    refine wp_aload_n d_Fo_forgets_0 rfl rfl ?_
    refine wp_getR d_Fo_forgets_1 ow_Fo_forgets fl_7_10 (O_0 _) rfl ?_
    refine wp_iload_n d_Fo_forgets_4 rfl rfl ?_
    refine wp_invV d_Fo_forgets_5 ow_Fo_forgets lk_7_90 (by decide) mi_La_has rfl rfl (Nat.le_of_ble_eq_true rfl) rfl (wp_isC (O_1 _)) (show h_La_has ≤ _ from by decide) (c_has C _ ?_)
    refine wp_Ki ?_
    refine wp_ifB_ne (pc' := 17) d_Fo_forgets_8 (by decide) (fun h8 => absurd h8 h) (fun h8 => ?_)
    refine wp_aload_n d_Fo_forgets_11 rfl rfl ?_
    refine wp_iconst (x := nI 1) d_Fo_forgets_12 rfl ?_
    refine wp_invV d_Fo_forgets_13 ow_Fo_forgets lk_7_70 (by decide) mi_Fo_error rfl rfl (Nat.le_of_ble_eq_true rfl) rfl (wp_isC (O_0 _)) (show h_Fo_error ≤ _ from by decide) (c_error 1 (by decide) (by decide) ?_)
    refine wp_Ki ?_
    refine wp_reti d_Fo_forgets_16 rt_Fo_forgets ?_
    exact cQ_er (e := 1) K (by decide) C fr.rf
theorem c_coach (C : CL S q) (hw : sp_wf q) (v : Int32) (K : cQ S (op_coach q v) Q) : cl h_Fo_coach y_Fo_coach [.ref 0, .int v] S Q := by
  have hn := hw.n
  unfold op_coach at K
  by_cases h : sp_isF q v
  · rw [sp_if_t h] at K
    obtain ⟨i, hi, rfl⟩ := sp_isF_of hw h
    rw [nI_clamp (by omega)] at K
    refine cl_in ml_Fo_coach rfl rfl ?_
    refine wp_aload_n d_Fo_coach_0 rfl rfl ?_
    refine wp_getR d_Fo_coach_1 ow_Fo_coach fl_7_10 (O_0 _) rfl ?_
    refine wp_iload_n d_Fo_coach_4 rfl rfl ?_
    refine wp_invV d_Fo_coach_5 ow_Fo_coach lk_7_90 (by decide) mi_La_has rfl rfl (Nat.le_of_ble_eq_true rfl) rfl (wp_isC (O_1 _)) (show h_La_has ≤ _ from by decide) (c_has C _ ?_)
    refine wp_Ki ?_
    refine wp_ifB_ne (pc' := 17) d_Fo_coach_8 (by decide) (fun h8 => ?_) (fun h8 => absurd h h8)
    refine wp_aload_n d_Fo_coach_17 rfl rfl ?_
    refine wp_getR d_Fo_coach_18 ow_Fo_coach fl_7_10 (O_0 _) rfl ?_
    refine wp_iload_n d_Fo_coach_21 rfl rfl ?_
    refine wp_invV d_Fo_coach_22 ow_Fo_coach lk_7_202 (by decide) mi_La_coachAt rfl rfl (Nat.le_of_ble_eq_true rfl) rfl (wp_isC (O_1 _)) (show h_La_coachAt ≤ _ from by decide) (c_coachAt C hw i hi ?_)
    refine wp_Ki ?_
    refine wp_reti d_Fo_coach_25 rt_Fo_coach ?_
    exact cQ_ok K C fr.rf
  · rw [sp_if_f h] at K
    refine cl_in ml_Fo_coach rfl rfl ?_
    refine wp_aload_n d_Fo_coach_0 rfl rfl ?_
    refine wp_getR d_Fo_coach_1 ow_Fo_coach fl_7_10 (O_0 _) rfl ?_
    refine wp_iload_n d_Fo_coach_4 rfl rfl ?_
    refine wp_invV d_Fo_coach_5 ow_Fo_coach lk_7_90 (by decide) mi_La_has rfl rfl (Nat.le_of_ble_eq_true rfl) rfl (wp_isC (O_1 _)) (show h_La_has ≤ _ from by decide) (c_has C _ ?_)
    refine wp_Ki ?_
    refine wp_ifB_ne (pc' := 17) d_Fo_coach_8 (by decide) (fun h8 => absurd h8 h) (fun h8 => ?_)
    refine wp_aload_n d_Fo_coach_11 rfl rfl ?_
    refine wp_iconst (x := nI 1) d_Fo_coach_12 rfl ?_
    refine wp_invV d_Fo_coach_13 ow_Fo_coach lk_7_70 (by decide) mi_Fo_error rfl rfl (Nat.le_of_ble_eq_true rfl) rfl (wp_isC (O_0 _)) (show h_Fo_error ≤ _ from by decide) (c_error 1 (by decide) (by decide) ?_)
    refine wp_Ki ?_
    refine wp_reti d_Fo_coach_16 rt_Fo_coach ?_
    exact cQ_er (e := 1) K (by decide) C fr.rf
theorem c_law (C : CL S q) (u a b c : Int32) (K : cQ S (op_law q u a b c) Q) : cl h_Fo_law y_Fo_law [.ref 0, .int u, .int a, .int b, .int c] S Q := by
  unfold op_law at K
  by_cases h : sp_isW u 1
  · rw [sp_if_t h] at K
    obtain ⟨i, hi, rfl⟩ := (i_in (by decide)).mp h
    rw [nI_clamp (by omega)] at K
    have f0 : ∀ {k : Nat} {S' : wp_S}, k = 6 ∨ k = 9 → fr (fun e _ => e = k) S S' → fr cS S S' := fun hk f => f.mono (fun _ _ z => by unfold cS; omega)
    rcases (show i = 0 ∨ i = 1 by omega) with rfl | rfl
    · have e : sp_law q 0 a b c = sp_raw q 0 a b c := if_pos rfl
      rw [e] at K
      refine cl_in ml_Fo_law rfl rfl ?_
      refine wp_iload_n d_Fo_law_0 rfl rfl ?_
      refine wp_iconst (x := nI 0) d_Fo_law_1 rfl ?_
      refine wp_iconst (x := nI 1) d_Fo_law_2 rfl ?_
      refine wp_invS d_Fo_law_3 ow_Fo_law lk_7_66 (by decide) mi_Fo_isWithin rfl rfl (Nat.le_of_ble_eq_true rfl) rfl (show h_Fo_isWithin ≤ _ from by decide) (c_isWithin _ _ _ ?_)
      refine wp_Ki ?_
      refine wp_ifB_ne (pc' := 15) d_Fo_law_6 (by decide) (fun h6 => ?_) (fun h6 => absurd h h6)
      refine wp_iload_n d_Fo_law_15 rfl rfl ?_
      refine wp_ifN_ne (pc' := 36) d_Fo_law_16 (by decide) (by omega) (fun q => absurd q (by decide)) (fun _ => ?_)
      refine wp_aload_n d_Fo_law_19 rfl rfl ?_
      refine wp_getR d_Fo_law_20 ow_Fo_law fl_7_10 (O_0 _) rfl ?_
      refine wp_getR d_Fo_law_23 ow_Fo_law fl_7_165 (O_1 _) rfl ?_
      refine wp_iload_n d_Fo_law_26 rfl rfl ?_
      refine wp_iload_n d_Fo_law_27 rfl rfl ?_
      refine wp_iload d_Fo_law_28 rfl ?_
      refine wp_invV d_Fo_law_30 ow_Fo_law lk_7_192 (by decide) mi_Lw_work rfl rfl (Nat.le_of_ble_eq_true rfl) rfl (wp_isC (O_4 _)) (show h_Lw_work ≤ _ from by decide) (c_work0 (C.2.2 0 (by decide)) _ _ _ (fun S2 f2 => ?_))
      refine wp_Ki ?_
      refine wp_goto (pc' := 53) d_Fo_law_33 (by decide) ?_
      refine wp_reti d_Fo_law_53 rt_Fo_law ?_
      exact cQ_ok K (CL_st C (f0 (Or.inl rfl) f2)) (fr_YL (fr_LS (f0 (Or.inl rfl) f2)))
    · have e : sp_law q 1 a b c = sp_cl (sp_raw q 1 a b c) 0 999 := if_neg (by decide)
      rw [e] at K
      refine cl_in ml_Fo_law rfl rfl ?_
      refine wp_iload_n d_Fo_law_0 rfl rfl ?_
      refine wp_iconst (x := nI 0) d_Fo_law_1 rfl ?_
      refine wp_iconst (x := nI 1) d_Fo_law_2 rfl ?_
      refine wp_invS d_Fo_law_3 ow_Fo_law lk_7_66 (by decide) mi_Fo_isWithin rfl rfl (Nat.le_of_ble_eq_true rfl) rfl (show h_Fo_isWithin ≤ _ from by decide) (c_isWithin _ _ _ ?_)
      refine wp_Ki ?_
      refine wp_ifB_ne (pc' := 15) d_Fo_law_6 (by decide) (fun h6 => ?_) (fun h6 => absurd h h6)
      refine wp_iload_n d_Fo_law_15 rfl rfl ?_
      refine wp_ifN_ne (pc' := 36) d_Fo_law_16 (by decide) (by omega) (fun _ => ?_) (fun q => absurd q (by decide))
      refine wp_aload_n d_Fo_law_36 rfl rfl ?_
      refine wp_getR d_Fo_law_37 ow_Fo_law fl_7_10 (O_0 _) rfl ?_
      refine wp_getR d_Fo_law_40 ow_Fo_law fl_7_169 (O_1 _) rfl ?_
      refine wp_iload_n d_Fo_law_43 rfl rfl ?_
      refine wp_iload_n d_Fo_law_44 rfl rfl ?_
      refine wp_iload d_Fo_law_45 rfl ?_
      refine wp_invV d_Fo_law_47 ow_Fo_law lk_7_192 (by decide) mi_Lw_work rfl rfl (Nat.le_of_ble_eq_true rfl) rfl (wp_isC (O_7 _)) (show h_Lw_work ≤ _ from by decide) (c_work1 (C.2.2 1 (by decide)) _ _ _ (fun S2 f2 => ?_))
      refine wp_Ki ?_
      refine wp_invS d_Fo_law_50 ow_Fo_law lk_7_196 (by decide) mi_Fo_heldRent rfl rfl (Nat.le_of_ble_eq_true rfl) rfl (show h_Fo_heldRent ≤ _ from by decide) (c_heldRent _ ?_)
      refine wp_Ki ?_
      refine wp_reti d_Fo_law_53 rt_Fo_law ?_
      exact cQ_ok K (CL_st C (f0 (Or.inr rfl) f2)) (fr_YL (fr_LS (f0 (Or.inr rfl) f2)))
  · rw [sp_if_f h] at K
    refine cl_in ml_Fo_law rfl rfl ?_
    refine wp_iload_n d_Fo_law_0 rfl rfl ?_
    refine wp_iconst (x := nI 0) d_Fo_law_1 rfl ?_
    refine wp_iconst (x := nI 1) d_Fo_law_2 rfl ?_
    refine wp_invS d_Fo_law_3 ow_Fo_law lk_7_66 (by decide) mi_Fo_isWithin rfl rfl (Nat.le_of_ble_eq_true rfl) rfl (show h_Fo_isWithin ≤ _ from by decide) (c_isWithin _ _ _ ?_)
    refine wp_Ki ?_
    refine wp_ifB_ne (pc' := 15) d_Fo_law_6 (by decide) (fun h6 => absurd h6 h) (fun h6 => ?_)
    refine wp_aload_n d_Fo_law_9 rfl rfl ?_
    refine wp_iconst (x := nI 1) d_Fo_law_10 rfl ?_
    refine wp_invV d_Fo_law_11 ow_Fo_law lk_7_70 (by decide) mi_Fo_error rfl rfl (Nat.le_of_ble_eq_true rfl) rfl (wp_isC (O_0 _)) (show h_Fo_error ≤ _ from by decide) (c_error 1 (by decide) (by decide) ?_)
    refine wp_Ki ?_
    refine wp_reti d_Fo_law_14 rt_Fo_law ?_
    exact cQ_er (e := 1) K (by decide) C fr.rf
theorem c_silence (C : CL S q) (hw : sp_wf q) (v o : Int32) (K : cQ S (op_silence q v o) Q) : cl h_Fo_silence y_Fo_silence [.ref 0, .int v, .int o] S Q := by
  unfold op_silence at K
  by_cases h : sp_isF q v ∧ sp_isW o 3
  · rw [sp_if_t h] at K
    refine cl_in ml_Fo_silence rfl rfl ?_
    refine wp_aload_n d_Fo_silence_0 rfl rfl ?_
    refine wp_getR d_Fo_silence_1 ow_Fo_silence fl_7_10 (O_0 _) rfl ?_
    refine wp_iload_n d_Fo_silence_4 rfl rfl ?_
    refine wp_invV d_Fo_silence_5 ow_Fo_silence lk_7_90 (by decide) mi_La_has rfl rfl (Nat.le_of_ble_eq_true rfl) rfl (wp_isC (O_1 _)) (show h_La_has ≤ _ from by decide) (c_has C _ ?_)
    refine wp_Ki ?_
    refine wp_ifB_eq (pc' := 18) d_Fo_silence_8 (by decide) (fun h8 => absurd h.1 h8) (fun h8 => ?_)
    refine wp_iload_n d_Fo_silence_11 rfl rfl ?_
    refine wp_invS d_Fo_silence_12 ow_Fo_silence lk_7_125 (by decide) mi_Fo_isOwner rfl rfl (Nat.le_of_ble_eq_true rfl) rfl (show h_Fo_isOwner ≤ _ from by decide) (c_isOwner _ ?_)
    refine wp_Ki ?_
    refine wp_ifB_ne (pc' := 24) d_Fo_silence_15 (by decide) (fun h15 => ?_) (fun h15 => absurd h.2 h15)
    refine wp_aload_n d_Fo_silence_24 rfl rfl ?_
    refine wp_getR d_Fo_silence_25 ow_Fo_silence fl_7_10 (O_0 _) rfl ?_
    refine wp_iload_n d_Fo_silence_28 rfl rfl ?_
    refine wp_iconst (x := -1) d_Fo_silence_29 rfl ?_
    refine wp_invV d_Fo_silence_30 ow_Fo_silence lk_7_137 (by decide) mi_La_acresOf rfl rfl (Nat.le_of_ble_eq_true rfl) rfl (wp_isC (O_1 _)) (show h_La_acresOf ≤ _ from by decide) (c_acresOf C hw o (-1) (fun S2 f2 => ?_))
    refine wp_Ki ?_
    refine wp_aload_n d_Fo_silence_33 rfl rfl ?_
    refine wp_getR d_Fo_silence_34 ow_Fo_silence fl_7_10 (O_0 _) rfl ?_
    refine wp_iload_n d_Fo_silence_37 rfl rfl ?_
    refine wp_iload_n d_Fo_silence_38 rfl rfl ?_
    refine wp_invV d_Fo_silence_39 ow_Fo_silence lk_7_137 (by decide) mi_La_acresOf rfl rfl (Nat.le_of_ble_eq_true rfl) rfl (wp_isC (O_1 _)) (show h_La_acresOf ≤ _ from by decide) (c_acresOf (CL_st C f2) hw o v (fun S3 f3 => ?_))
    refine wp_Ki ?_
    refine wp_isub d_Fo_silence_42 rfl ?_
    refine wp_reti d_Fo_silence_43 rt_Fo_silence ?_
    exact cQ_ok K (CL_st (CL_st C f2) f3) (fr_YL ((fr_LS f2).tr (fr_LS f3)))
  · rw [sp_if_f h] at K
    refine cl_in ml_Fo_silence rfl rfl ?_
    refine wp_aload_n d_Fo_silence_0 rfl rfl ?_
    refine wp_getR d_Fo_silence_1 ow_Fo_silence fl_7_10 (O_0 _) rfl ?_
    refine wp_iload_n d_Fo_silence_4 rfl rfl ?_
    refine wp_invV d_Fo_silence_5 ow_Fo_silence lk_7_90 (by decide) mi_La_has rfl rfl (Nat.le_of_ble_eq_true rfl) rfl (wp_isC (O_1 _)) (show h_La_has ≤ _ from by decide) (c_has C _ ?_)
    refine wp_Ki ?_
    refine wp_ifB_eq (pc' := 18) d_Fo_silence_8 (by decide) (fun h8 => ?_) (fun h8 => ?_)
    · refine wp_aload_n d_Fo_silence_18 rfl rfl ?_
      refine wp_iconst (x := nI 1) d_Fo_silence_19 rfl ?_
      refine wp_invV d_Fo_silence_20 ow_Fo_silence lk_7_70 (by decide) mi_Fo_error rfl rfl (Nat.le_of_ble_eq_true rfl) rfl (wp_isC (O_0 _)) (show h_Fo_error ≤ _ from by decide) (c_error 1 (by decide) (by decide) ?_)
      refine wp_Ki ?_
      refine wp_reti d_Fo_silence_23 rt_Fo_silence ?_
      exact cQ_er (e := 1) K (by decide) C fr.rf
    · refine wp_iload_n d_Fo_silence_11 rfl rfl ?_
      refine wp_invS d_Fo_silence_12 ow_Fo_silence lk_7_125 (by decide) mi_Fo_isOwner rfl rfl (Nat.le_of_ble_eq_true rfl) rfl (show h_Fo_isOwner ≤ _ from by decide) (c_isOwner _ ?_)
      refine wp_Ki ?_
      refine wp_ifB_ne (pc' := 24) d_Fo_silence_15 (by decide) (fun h15 => absurd ⟨h8, h15⟩ h) (fun h15 => ?_)
      refine wp_aload_n d_Fo_silence_18 rfl rfl ?_
      refine wp_iconst (x := nI 1) d_Fo_silence_19 rfl ?_
      refine wp_invV d_Fo_silence_20 ow_Fo_silence lk_7_70 (by decide) mi_Fo_error rfl rfl (Nat.le_of_ble_eq_true rfl) rfl (wp_isC (O_0 _)) (show h_Fo_error ≤ _ from by decide) (c_error 1 (by decide) (by decide) ?_)
      refine wp_Ki ?_
      refine wp_reti d_Fo_silence_23 rt_Fo_silence ?_
      exact cQ_er (e := 1) K (by decide) C fr.rf
theorem c_ofField (C : CL S q) (hw : sp_wf q) (v w : Int32) (K : cQ S (op_ofField q v w) Q) : cl h_Fo_ofField y_Fo_ofField [.ref 0, .int v, .int w] S Q := by
  have hn := hw.n
  unfold op_ofField at K
  by_cases h : sp_isF q v ∧ sp_isW w 9
  · rw [sp_if_t h] at K
    obtain ⟨i, hi, rfl⟩ := sp_isF_of hw h.1
    obtain ⟨k, hk, rfl⟩ := (i_in (by decide)).mp h.2
    rw [nI_clamp (by omega), nI_clamp (by omega)] at K
    unfold sp_of at K
    have K27 : wp (h_Fo_ofField - 1) y_Fo_ofField 27 [some (.ref 0), some (.int (nI i)), some (.int (nI k)), none] [] S Q := by
      clear h
      rcases (show k = 0 ∨ k = 1 ∨ k = 2 ∨ k = 3 ∨ k = 4 ∨ k = 5 ∨ k = 6 ∨ k = 7 ∨ k = 8 ∨ k = 9 by omega) with rfl | rfl | rfl | rfl | rfl | rfl | rfl | rfl | rfl | rfl
      · rw [if_neg (by decide), if_neg (by decide), if_neg (by decide), if_neg (by decide)] at K
        refine wp_aload_n d_Fo_ofField_27 rfl rfl ?_
        refine wp_getR d_Fo_ofField_28 ow_Fo_ofField fl_7_10 (O_0 _) rfl ?_
        refine wp_getR d_Fo_ofField_31 ow_Fo_ofField fl_7_77 (O_1 _) rfl ?_
        refine wp_iload_n d_Fo_ofField_34 rfl rfl ?_
        refine wp_aaload d_Fo_ofField_35 rfl (f_F (by omega)) (by decide) ?_
        refine wp_aston3 d_Fo_ofField_36 rfl ?_
        refine wp_iload_n d_Fo_ofField_37 rfl rfl ?_
        refine wp_ts (pc' := 88) d_Fo_ofField_38 (by decide) rfl (by decide) ?_
        refine wp_aload_n d_Fo_ofField_88 rfl rfl ?_
        refine wp_getI d_Fo_ofField_89 ow_Fo_ofField fl_7_93 (O_F _ (by omega)) rfl (C.f (by omega) (w := 0) (by decide)) ?_
        refine wp_reti d_Fo_ofField_92 rt_Fo_ofField ?_
        exact cQ_ok K C fr.rf
      · rw [if_neg (by decide), if_neg (by decide), if_neg (by decide), if_neg (by decide)] at K
        refine wp_aload_n d_Fo_ofField_27 rfl rfl ?_
        refine wp_getR d_Fo_ofField_28 ow_Fo_ofField fl_7_10 (O_0 _) rfl ?_
        refine wp_getR d_Fo_ofField_31 ow_Fo_ofField fl_7_77 (O_1 _) rfl ?_
        refine wp_iload_n d_Fo_ofField_34 rfl rfl ?_
        refine wp_aaload d_Fo_ofField_35 rfl (f_F (by omega)) (by decide) ?_
        refine wp_aston3 d_Fo_ofField_36 rfl ?_
        refine wp_iload_n d_Fo_ofField_37 rfl rfl ?_
        refine wp_ts (pc' := 93) d_Fo_ofField_38 (by decide) rfl (by decide) ?_
        refine wp_aload_n d_Fo_ofField_93 rfl rfl ?_
        refine wp_getI d_Fo_ofField_94 ow_Fo_ofField fl_7_96 (O_F _ (by omega)) rfl (C.f (by omega) (w := 1) (by decide)) ?_
        refine wp_reti d_Fo_ofField_97 rt_Fo_ofField ?_
        exact cQ_ok K C fr.rf
      · rw [if_neg (by decide), if_neg (by decide), if_neg (by decide), if_neg (by decide)] at K
        refine wp_aload_n d_Fo_ofField_27 rfl rfl ?_
        refine wp_getR d_Fo_ofField_28 ow_Fo_ofField fl_7_10 (O_0 _) rfl ?_
        refine wp_getR d_Fo_ofField_31 ow_Fo_ofField fl_7_77 (O_1 _) rfl ?_
        refine wp_iload_n d_Fo_ofField_34 rfl rfl ?_
        refine wp_aaload d_Fo_ofField_35 rfl (f_F (by omega)) (by decide) ?_
        refine wp_aston3 d_Fo_ofField_36 rfl ?_
        refine wp_iload_n d_Fo_ofField_37 rfl rfl ?_
        refine wp_ts (pc' := 98) d_Fo_ofField_38 (by decide) rfl (by decide) ?_
        refine wp_aload_n d_Fo_ofField_98 rfl rfl ?_
        refine wp_getI d_Fo_ofField_99 ow_Fo_ofField fl_7_99 (O_F _ (by omega)) rfl (C.f (by omega) (w := 2) (by decide)) ?_
        refine wp_reti d_Fo_ofField_102 rt_Fo_ofField ?_
        exact cQ_ok K C fr.rf
      · rw [if_neg (by decide), if_neg (by decide), if_neg (by decide), if_neg (by decide)] at K
        refine wp_aload_n d_Fo_ofField_27 rfl rfl ?_
        refine wp_getR d_Fo_ofField_28 ow_Fo_ofField fl_7_10 (O_0 _) rfl ?_
        refine wp_getR d_Fo_ofField_31 ow_Fo_ofField fl_7_77 (O_1 _) rfl ?_
        refine wp_iload_n d_Fo_ofField_34 rfl rfl ?_
        refine wp_aaload d_Fo_ofField_35 rfl (f_F (by omega)) (by decide) ?_
        refine wp_aston3 d_Fo_ofField_36 rfl ?_
        refine wp_iload_n d_Fo_ofField_37 rfl rfl ?_
        refine wp_ts (pc' := 103) d_Fo_ofField_38 (by decide) rfl (by decide) ?_
        refine wp_aload_n d_Fo_ofField_103 rfl rfl ?_
        refine wp_getI d_Fo_ofField_104 ow_Fo_ofField fl_7_102 (O_F _ (by omega)) rfl (C.f (by omega) (w := 3) (by decide)) ?_
        refine wp_reti d_Fo_ofField_107 rt_Fo_ofField ?_
        exact cQ_ok K C fr.rf
      · rw [if_neg (by decide), if_neg (by decide), if_neg (by decide), if_neg (by decide)] at K
        refine wp_aload_n d_Fo_ofField_27 rfl rfl ?_
        refine wp_getR d_Fo_ofField_28 ow_Fo_ofField fl_7_10 (O_0 _) rfl ?_
        refine wp_getR d_Fo_ofField_31 ow_Fo_ofField fl_7_77 (O_1 _) rfl ?_
        refine wp_iload_n d_Fo_ofField_34 rfl rfl ?_
        refine wp_aaload d_Fo_ofField_35 rfl (f_F (by omega)) (by decide) ?_
        refine wp_aston3 d_Fo_ofField_36 rfl ?_
        refine wp_iload_n d_Fo_ofField_37 rfl rfl ?_
        refine wp_ts (pc' := 108) d_Fo_ofField_38 (by decide) rfl (by decide) ?_
        refine wp_aload_n d_Fo_ofField_108 rfl rfl ?_
        refine wp_getI d_Fo_ofField_109 ow_Fo_ofField fl_7_105 (O_F _ (by omega)) rfl (C.f (by omega) (w := 4) (by decide)) ?_
        refine wp_reti d_Fo_ofField_112 rt_Fo_ofField ?_
        exact cQ_ok K C fr.rf
      · rw [if_neg (by decide), if_neg (by decide), if_neg (by decide), if_neg (by decide)] at K
        refine wp_aload_n d_Fo_ofField_27 rfl rfl ?_
        refine wp_getR d_Fo_ofField_28 ow_Fo_ofField fl_7_10 (O_0 _) rfl ?_
        refine wp_getR d_Fo_ofField_31 ow_Fo_ofField fl_7_77 (O_1 _) rfl ?_
        refine wp_iload_n d_Fo_ofField_34 rfl rfl ?_
        refine wp_aaload d_Fo_ofField_35 rfl (f_F (by omega)) (by decide) ?_
        refine wp_aston3 d_Fo_ofField_36 rfl ?_
        refine wp_iload_n d_Fo_ofField_37 rfl rfl ?_
        refine wp_ts (pc' := 113) d_Fo_ofField_38 (by decide) rfl (by decide) ?_
        refine wp_aload_n d_Fo_ofField_113 rfl rfl ?_
        refine wp_getI d_Fo_ofField_114 ow_Fo_ofField fl_7_108 (O_F _ (by omega)) rfl (C.f (by omega) (w := 5) (by decide)) ?_
        refine wp_reti d_Fo_ofField_117 rt_Fo_ofField ?_
        exact cQ_ok K C fr.rf
      · rw [if_pos rfl] at K
        refine wp_aload_n d_Fo_ofField_27 rfl rfl ?_
        refine wp_getR d_Fo_ofField_28 ow_Fo_ofField fl_7_10 (O_0 _) rfl ?_
        refine wp_getR d_Fo_ofField_31 ow_Fo_ofField fl_7_77 (O_1 _) rfl ?_
        refine wp_iload_n d_Fo_ofField_34 rfl rfl ?_
        refine wp_aaload d_Fo_ofField_35 rfl (f_F (by omega)) (by decide) ?_
        refine wp_aston3 d_Fo_ofField_36 rfl ?_
        refine wp_iload_n d_Fo_ofField_37 rfl rfl ?_
        refine wp_ts (pc' := 118) d_Fo_ofField_38 (by decide) rfl (by decide) ?_
        refine wp_aload_n d_Fo_ofField_118 rfl rfl ?_
        refine wp_getR d_Fo_ofField_119 ow_Fo_ofField fl_7_10 (O_0 _) rfl ?_
        refine wp_iload_n d_Fo_ofField_122 rfl rfl ?_
        refine wp_iconst (x := -1) d_Fo_ofField_123 rfl ?_
        refine wp_invV d_Fo_ofField_124 ow_Fo_ofField lk_7_111 (by decide) mi_La_says rfl rfl (Nat.le_of_ble_eq_true rfl) rfl (wp_isC (O_1 _)) (show h_La_says ≤ _ from by decide) (c_says C (-1) i (by omega) (fun j hj => hw.f (by omega)) ?_)
        refine wp_Ki ?_
        refine wp_reti d_Fo_ofField_127 rt_Fo_ofField ?_
        exact cQ_ok K C fr.rf
      · rw [if_neg (by decide), if_pos rfl] at K
        refine wp_aload_n d_Fo_ofField_27 rfl rfl ?_
        refine wp_getR d_Fo_ofField_28 ow_Fo_ofField fl_7_10 (O_0 _) rfl ?_
        refine wp_getR d_Fo_ofField_31 ow_Fo_ofField fl_7_77 (O_1 _) rfl ?_
        refine wp_iload_n d_Fo_ofField_34 rfl rfl ?_
        refine wp_aaload d_Fo_ofField_35 rfl (f_F (by omega)) (by decide) ?_
        refine wp_aston3 d_Fo_ofField_36 rfl ?_
        refine wp_iload_n d_Fo_ofField_37 rfl rfl ?_
        refine wp_ts (pc' := 128) d_Fo_ofField_38 (by decide) rfl (by decide) ?_
        refine wp_aload_n d_Fo_ofField_128 rfl rfl ?_
        refine wp_getR d_Fo_ofField_129 ow_Fo_ofField fl_7_10 (O_0 _) rfl ?_
        refine wp_iload_n d_Fo_ofField_132 rfl rfl ?_
        refine wp_iconst (x := -1) d_Fo_ofField_133 rfl ?_
        refine wp_invV d_Fo_ofField_134 ow_Fo_ofField lk_7_115 (by decide) mi_La_ownerOf rfl rfl (Nat.le_of_ble_eq_true rfl) rfl (wp_isC (O_1 _)) (show h_La_ownerOf ≤ _ from by decide) (c_ownerOf C hw (-1) i hi (fun S2 f2 => ?_))
        refine wp_Ki ?_
        refine wp_reti d_Fo_ofField_137 rt_Fo_ofField ?_
        exact cQ_ok K (CL_st C f2) (fr_YL (fr_LS f2))
      · rw [if_neg (by decide), if_neg (by decide), if_pos rfl] at K
        refine wp_aload_n d_Fo_ofField_27 rfl rfl ?_
        refine wp_getR d_Fo_ofField_28 ow_Fo_ofField fl_7_10 (O_0 _) rfl ?_
        refine wp_getR d_Fo_ofField_31 ow_Fo_ofField fl_7_77 (O_1 _) rfl ?_
        refine wp_iload_n d_Fo_ofField_34 rfl rfl ?_
        refine wp_aaload d_Fo_ofField_35 rfl (f_F (by omega)) (by decide) ?_
        refine wp_aston3 d_Fo_ofField_36 rfl ?_
        refine wp_iload_n d_Fo_ofField_37 rfl rfl ?_
        refine wp_ts (pc' := 138) d_Fo_ofField_38 (by decide) rfl (by decide) ?_
        refine wp_aload_n d_Fo_ofField_138 rfl rfl ?_
        refine wp_getR d_Fo_ofField_139 ow_Fo_ofField fl_7_10 (O_0 _) rfl ?_
        refine wp_iload_n d_Fo_ofField_142 rfl rfl ?_
        refine wp_invV d_Fo_ofField_143 ow_Fo_ofField lk_7_118 (by decide) mi_La_rentOf rfl rfl (Nat.le_of_ble_eq_true rfl) rfl (wp_isC (O_1 _)) (show h_La_rentOf ≤ _ from by decide) (c_rentOf C hw i hi (fun S2 f2 => ?_))
        refine wp_Ki ?_
        refine wp_reti d_Fo_ofField_146 rt_Fo_ofField ?_
        exact cQ_ok K (CL_st C f2) (fr_YL (fr_LS f2))
      · rw [if_neg (by decide), if_neg (by decide), if_neg (by decide), if_pos rfl] at K
        refine wp_aload_n d_Fo_ofField_27 rfl rfl ?_
        refine wp_getR d_Fo_ofField_28 ow_Fo_ofField fl_7_10 (O_0 _) rfl ?_
        refine wp_getR d_Fo_ofField_31 ow_Fo_ofField fl_7_77 (O_1 _) rfl ?_
        refine wp_iload_n d_Fo_ofField_34 rfl rfl ?_
        refine wp_aaload d_Fo_ofField_35 rfl (f_F (by omega)) (by decide) ?_
        refine wp_aston3 d_Fo_ofField_36 rfl ?_
        refine wp_iload_n d_Fo_ofField_37 rfl rfl ?_
        refine wp_td (pc' := 147) d_Fo_ofField_38 (by decide) (by decide) ?_
        refine wp_aload_n d_Fo_ofField_147 rfl rfl ?_
        refine wp_invV d_Fo_ofField_148 ow_Fo_ofField lk_7_121 (by decide) mi_Fi_toldByAll rfl rfl (Nat.le_of_ble_eq_true rfl) rfl (wp_isC (O_F _ (by omega))) (show h_Fi_toldByAll ≤ _ from by decide) (c_toldByAll C (by omega) ?_)
        refine wp_Ki ?_
        refine wp_reti d_Fo_ofField_151 rt_Fo_ofField ?_
        exact cQ_ok K C fr.rf
    refine cl_in ml_Fo_ofField rfl rfl ?_
    refine wp_aload_n d_Fo_ofField_0 rfl rfl ?_
    refine wp_getR d_Fo_ofField_1 ow_Fo_ofField fl_7_10 (O_0 _) rfl ?_
    refine wp_iload_n d_Fo_ofField_4 rfl rfl ?_
    refine wp_invV d_Fo_ofField_5 ow_Fo_ofField lk_7_90 (by decide) mi_La_has rfl rfl (Nat.le_of_ble_eq_true rfl) rfl (wp_isC (O_1 _)) (show h_La_has ≤ _ from by decide) (c_has C _ ?_)
    refine wp_Ki ?_
    refine wp_ifB_eq (pc' := 21) d_Fo_ofField_8 (by decide) (fun h8 => absurd h.1 h8) (fun h8 => ?_)
    refine wp_iload_n d_Fo_ofField_11 rfl rfl ?_
    refine wp_iconst (x := nI 0) d_Fo_ofField_12 rfl ?_
    refine wp_bipush (x := nI 9) d_Fo_ofField_13 (by decide) ?_
    refine wp_invS d_Fo_ofField_15 ow_Fo_ofField lk_7_66 (by decide) mi_Fo_isWithin rfl rfl (Nat.le_of_ble_eq_true rfl) rfl (show h_Fo_isWithin ≤ _ from by decide) (c_isWithin _ _ _ ?_)
    refine wp_Ki ?_
    refine wp_ifB_ne (pc' := 27) d_Fo_ofField_18 (by decide) (fun h18 => ?_) (fun h18 => absurd h.2 h18)
    exact K27
  · rw [sp_if_f h] at K
    refine cl_in ml_Fo_ofField rfl rfl ?_
    refine wp_aload_n d_Fo_ofField_0 rfl rfl ?_
    refine wp_getR d_Fo_ofField_1 ow_Fo_ofField fl_7_10 (O_0 _) rfl ?_
    refine wp_iload_n d_Fo_ofField_4 rfl rfl ?_
    refine wp_invV d_Fo_ofField_5 ow_Fo_ofField lk_7_90 (by decide) mi_La_has rfl rfl (Nat.le_of_ble_eq_true rfl) rfl (wp_isC (O_1 _)) (show h_La_has ≤ _ from by decide) (c_has C _ ?_)
    refine wp_Ki ?_
    refine wp_ifB_eq (pc' := 21) d_Fo_ofField_8 (by decide) (fun h8 => ?_) (fun h8 => ?_)
    · refine wp_aload_n d_Fo_ofField_21 rfl rfl ?_
      refine wp_iconst (x := nI 1) d_Fo_ofField_22 rfl ?_
      refine wp_invV d_Fo_ofField_23 ow_Fo_ofField lk_7_70 (by decide) mi_Fo_error rfl rfl (Nat.le_of_ble_eq_true rfl) rfl (wp_isC (O_0 _)) (show h_Fo_error ≤ _ from by decide) (c_error 1 (by decide) (by decide) ?_)
      refine wp_Ki ?_
      refine wp_reti d_Fo_ofField_26 rt_Fo_ofField ?_
      exact cQ_er (e := 1) K (by decide) C fr.rf
    · refine wp_iload_n d_Fo_ofField_11 rfl rfl ?_
      refine wp_iconst (x := nI 0) d_Fo_ofField_12 rfl ?_
      refine wp_bipush (x := nI 9) d_Fo_ofField_13 (by decide) ?_
      refine wp_invS d_Fo_ofField_15 ow_Fo_ofField lk_7_66 (by decide) mi_Fo_isWithin rfl rfl (Nat.le_of_ble_eq_true rfl) rfl (show h_Fo_isWithin ≤ _ from by decide) (c_isWithin _ _ _ ?_)
      refine wp_Ki ?_
      refine wp_ifB_ne (pc' := 27) d_Fo_ofField_18 (by decide) (fun h18 => absurd ⟨h8, h18⟩ h) (fun h18 => ?_)
      refine wp_aload_n d_Fo_ofField_21 rfl rfl ?_
      refine wp_iconst (x := nI 1) d_Fo_ofField_22 rfl ?_
      refine wp_invV d_Fo_ofField_23 ow_Fo_ofField lk_7_70 (by decide) mi_Fo_error rfl rfl (Nat.le_of_ble_eq_true rfl) rfl (wp_isC (O_0 _)) (show h_Fo_error ≤ _ from by decide) (c_error 1 (by decide) (by decide) ?_)
      refine wp_Ki ?_
      refine wp_reti d_Fo_ofField_26 rt_Fo_ofField ?_
      exact cQ_er (e := 1) K (by decide) C fr.rf
theorem c_ofOwner (C : CL S q) (hw : sp_wf q) (o w : Int32) (K : cQ S (op_ofOwner q o w) Q) : cl h_Fo_ofOwner y_Fo_ofOwner [.ref 0, .int o, .int w] S Q := by
  unfold op_ofOwner at K
  by_cases h : sp_isW o 3 ∧ sp_isW w 3
  · rw [sp_if_t h] at K
    obtain ⟨o', ho, rfl⟩ := (i_in (by decide)).mp h.1
    obtain ⟨k, hk, rfl⟩ := (i_in (by decide)).mp h.2
    rw [nI_clamp (by omega), nI_clamp (by omega)] at K
    unfold sp_oo at K
    have K22 : wp (h_Fo_ofOwner - 1) y_Fo_ofOwner 22 [some (.ref 0), some (.int (nI o')), some (.int (nI k))] [] S Q := by
      clear h
      rcases (show k = 0 ∨ k = 1 ∨ k = 2 ∨ k = 3 by omega) with rfl | rfl | rfl | rfl
      · rw [if_pos rfl] at K
        refine wp_iload_n d_Fo_ofOwner_22 rfl rfl ?_
        refine wp_ts (pc' := 48) d_Fo_ofOwner_23 (by decide) rfl (by decide) ?_
        refine wp_aload_n d_Fo_ofOwner_48 rfl rfl ?_
        refine wp_getR d_Fo_ofOwner_49 ow_Fo_ofOwner fl_7_10 (O_0 _) rfl ?_
        refine wp_getR d_Fo_ofOwner_52 ow_Fo_ofOwner fl_7_131 (O_1 _) rfl ?_
        refine wp_iload_n d_Fo_ofOwner_55 rfl rfl ?_
        refine wp_iaload d_Fo_ofOwner_56 (A_3 _) (by omega) (by decide) (C.q9 (by omega)) ?_
        refine wp_reti d_Fo_ofOwner_57 rt_Fo_ofOwner ?_
        exact cQ_ok K C fr.rf
      · rw [if_neg (by decide), if_pos rfl] at K
        refine wp_iload_n d_Fo_ofOwner_22 rfl rfl ?_
        refine wp_ts (pc' := 58) d_Fo_ofOwner_23 (by decide) rfl (by decide) ?_
        refine wp_aload_n d_Fo_ofOwner_58 rfl rfl ?_
        refine wp_getR d_Fo_ofOwner_59 ow_Fo_ofOwner fl_7_10 (O_0 _) rfl ?_
        refine wp_iload_n d_Fo_ofOwner_62 rfl rfl ?_
        refine wp_invV d_Fo_ofOwner_63 ow_Fo_ofOwner lk_7_134 (by decide) mi_La_fieldsOf rfl rfl (Nat.le_of_ble_eq_true rfl) rfl (wp_isC (O_1 _)) (show h_La_fieldsOf ≤ _ from by decide) (c_fieldsOf C hw _ (fun S2 f2 => ?_))
        refine wp_Ki ?_
        refine wp_reti d_Fo_ofOwner_66 rt_Fo_ofOwner ?_
        exact cQ_ok K (CL_st C f2) (fr_YL (fr_LS f2))
      · rw [if_neg (by decide), if_neg (by decide), if_pos rfl] at K
        refine wp_iload_n d_Fo_ofOwner_22 rfl rfl ?_
        refine wp_ts (pc' := 67) d_Fo_ofOwner_23 (by decide) rfl (by decide) ?_
        refine wp_aload_n d_Fo_ofOwner_67 rfl rfl ?_
        refine wp_getR d_Fo_ofOwner_68 ow_Fo_ofOwner fl_7_10 (O_0 _) rfl ?_
        refine wp_iload_n d_Fo_ofOwner_71 rfl rfl ?_
        refine wp_iconst (x := -1) d_Fo_ofOwner_72 rfl ?_
        refine wp_invV d_Fo_ofOwner_73 ow_Fo_ofOwner lk_7_137 (by decide) mi_La_acresOf rfl rfl (Nat.le_of_ble_eq_true rfl) rfl (wp_isC (O_1 _)) (show h_La_acresOf ≤ _ from by decide) (c_acresOf C hw _ _ (fun S2 f2 => ?_))
        refine wp_Ki ?_
        refine wp_reti d_Fo_ofOwner_76 rt_Fo_ofOwner ?_
        exact cQ_ok K (CL_st C f2) (fr_YL (fr_LS f2))
      · rw [if_neg (by decide), if_neg (by decide), if_neg (by decide)] at K
        refine wp_iload_n d_Fo_ofOwner_22 rfl rfl ?_
        refine wp_td (pc' := 77) d_Fo_ofOwner_23 (by decide) (by decide) ?_
        refine wp_aload_n d_Fo_ofOwner_77 rfl rfl ?_
        refine wp_getR d_Fo_ofOwner_78 ow_Fo_ofOwner fl_7_10 (O_0 _) rfl ?_
        refine wp_iload_n d_Fo_ofOwner_81 rfl rfl ?_
        refine wp_invV d_Fo_ofOwner_82 ow_Fo_ofOwner lk_7_140 (by decide) mi_La_rentsOf rfl rfl (Nat.le_of_ble_eq_true rfl) rfl (wp_isC (O_1 _)) (show h_La_rentsOf ≤ _ from by decide) (c_rentsOf C hw _ (fun S2 f2 => ?_))
        refine wp_Ki ?_
        refine wp_reti d_Fo_ofOwner_85 rt_Fo_ofOwner ?_
        exact cQ_ok K (CL_st C f2) (fr_YL (fr_LS f2))
    refine cl_in ml_Fo_ofOwner rfl rfl ?_
    refine wp_iload_n d_Fo_ofOwner_0 rfl rfl ?_
    refine wp_invS d_Fo_ofOwner_1 ow_Fo_ofOwner lk_7_125 (by decide) mi_Fo_isOwner rfl rfl (Nat.le_of_ble_eq_true rfl) rfl (show h_Fo_isOwner ≤ _ from by decide) (c_isOwner _ ?_)
    refine wp_Ki ?_
    refine wp_ifB_eq (pc' := 16) d_Fo_ofOwner_4 (by decide) (fun h4 => absurd h.1 h4) (fun h4 => ?_)
    refine wp_iload_n d_Fo_ofOwner_7 rfl rfl ?_
    refine wp_iconst (x := nI 0) d_Fo_ofOwner_8 rfl ?_
    refine wp_iconst (x := nI 3) d_Fo_ofOwner_9 rfl ?_
    refine wp_invS d_Fo_ofOwner_10 ow_Fo_ofOwner lk_7_66 (by decide) mi_Fo_isWithin rfl rfl (Nat.le_of_ble_eq_true rfl) rfl (show h_Fo_isWithin ≤ _ from by decide) (c_isWithin _ _ _ ?_)
    refine wp_Ki ?_
    refine wp_ifB_ne (pc' := 22) d_Fo_ofOwner_13 (by decide) (fun h13 => ?_) (fun h13 => absurd h.2 h13)
    exact K22
  · rw [sp_if_f h] at K
    refine cl_in ml_Fo_ofOwner rfl rfl ?_
    refine wp_iload_n d_Fo_ofOwner_0 rfl rfl ?_
    refine wp_invS d_Fo_ofOwner_1 ow_Fo_ofOwner lk_7_125 (by decide) mi_Fo_isOwner rfl rfl (Nat.le_of_ble_eq_true rfl) rfl (show h_Fo_isOwner ≤ _ from by decide) (c_isOwner _ ?_)
    refine wp_Ki ?_
    refine wp_ifB_eq (pc' := 16) d_Fo_ofOwner_4 (by decide) (fun h4 => ?_) (fun h4 => ?_)
    · refine wp_aload_n d_Fo_ofOwner_16 rfl rfl ?_
      refine wp_iconst (x := nI 1) d_Fo_ofOwner_17 rfl ?_
      refine wp_invV d_Fo_ofOwner_18 ow_Fo_ofOwner lk_7_70 (by decide) mi_Fo_error rfl rfl (Nat.le_of_ble_eq_true rfl) rfl (wp_isC (O_0 _)) (show h_Fo_error ≤ _ from by decide) (c_error 1 (by decide) (by decide) ?_)
      refine wp_Ki ?_
      refine wp_reti d_Fo_ofOwner_21 rt_Fo_ofOwner ?_
      exact cQ_er (e := 1) K (by decide) C fr.rf
    · refine wp_iload_n d_Fo_ofOwner_7 rfl rfl ?_
      refine wp_iconst (x := nI 0) d_Fo_ofOwner_8 rfl ?_
      refine wp_iconst (x := nI 3) d_Fo_ofOwner_9 rfl ?_
      refine wp_invS d_Fo_ofOwner_10 ow_Fo_ofOwner lk_7_66 (by decide) mi_Fo_isWithin rfl rfl (Nat.le_of_ble_eq_true rfl) rfl (show h_Fo_isWithin ≤ _ from by decide) (c_isWithin _ _ _ ?_)
      refine wp_Ki ?_
      refine wp_ifB_ne (pc' := 22) d_Fo_ofOwner_13 (by decide) (fun h13 => absurd ⟨h4, h13⟩ h) (fun h13 => ?_)
      refine wp_aload_n d_Fo_ofOwner_16 rfl rfl ?_
      refine wp_iconst (x := nI 1) d_Fo_ofOwner_17 rfl ?_
      refine wp_invV d_Fo_ofOwner_18 ow_Fo_ofOwner lk_7_70 (by decide) mi_Fo_error rfl rfl (Nat.le_of_ble_eq_true rfl) rfl (wp_isC (O_0 _)) (show h_Fo_error ≤ _ from by decide) (c_error 1 (by decide) (by decide) ?_)
      refine wp_Ki ?_
      refine wp_reti d_Fo_ofOwner_21 rt_Fo_ofOwner ?_
      exact cQ_er (e := 1) K (by decide) C fr.rf
end CE
