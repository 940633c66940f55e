/-! the class: more calls -/
section CG
variable {S : wp_S} {q : sp_R} {mu : Int32} {Q : Option Value → wp_S → Prop}
theorem c_begin {i km : Nat} (hi : i < 10) (hk : km ≤ 69) (a : Int32) (K : Q none (wp_ls1 (wp_u (wp_u (wp_u (wp_u S (13 + 2 * i) 2 (nI (km / 10))) (13 + 2 * i) 3 (nI (km % 10))) (13 + 2 * i) 4 a) (13 + 2 * i) 5 (nI 0)) i)) : cl h_Fi_begin y_Fi_begin [.ref (13 + 2 * i), .int (nI km), .int a] S Q := by
  refine cl_in ml_Fi_begin rfl rfl ?_
  refine wp_aload_n d_Fi_begin_0 rfl rfl ?_
  refine wp_iload_n d_Fi_begin_1 rfl rfl ?_
  refine wp_bipush (x := nI 10) d_Fi_begin_2 (by decide) ?_
  refine wp_idivN d_Fi_begin_4 (by omega) (by omega) (by omega) ?_
  refine wp_put (ty := .int) d_Fi_begin_5 ow_Fi_begin fl_0_15 (by decide +kernel) (by decide +kernel) (O_F _ (by omega)) rfl ⟨rfl, rfl⟩ ?_
  refine wp_aload_n d_Fi_begin_8 rfl rfl ?_
  refine wp_iload_n d_Fi_begin_9 rfl rfl ?_
  refine wp_bipush (x := nI 10) d_Fi_begin_10 (by decide) ?_
  refine wp_iremN d_Fi_begin_12 (by omega) (by omega) (by omega) ?_
  refine wp_put (ty := .int) d_Fi_begin_13 ow_Fi_begin fl_0_19 (by decide +kernel) (by decide +kernel) (O_F _ (by omega)) rfl ⟨rfl, rfl⟩ ?_
  refine wp_aload_n d_Fi_begin_16 rfl rfl ?_
  refine wp_iload_n d_Fi_begin_17 rfl rfl ?_
  refine wp_put (ty := .int) d_Fi_begin_18 ow_Fi_begin fl_0_22 (by decide +kernel) (by decide +kernel) (O_F _ (by omega)) rfl ⟨rfl, rfl⟩ ?_
  refine wp_aload_n d_Fi_begin_21 rfl rfl ?_
  refine wp_iconst (x := nI 0) d_Fi_begin_22 rfl ?_
  refine wp_put (ty := .int) d_Fi_begin_23 ow_Fi_begin fl_0_25 (by decide +kernel) (by decide +kernel) (O_F _ (by omega)) rfl ⟨rfl, rfl⟩ ?_
  refine wp_aload_n d_Fi_begin_26 rfl rfl ?_
  refine wp_invV d_Fi_begin_27 ow_Fi_begin lk_0_37 (by decide) mi_Fi_loseAllTold rfl rfl (Nat.le_of_ble_eq_true rfl) rfl (wp_isC (O_F _ (by omega))) (show h_Fi_loseAllTold ≤ _ from by decide) (c_loseX hi ?_)
  refine wp_Kv ?_
  refine wp_return d_Fi_begin_30 rt_Fi_begin ?_
  exact K
theorem c_field (C : CL S q) (hw : sp_wf q) (w a : Int32) (K : cQ S (op_field q w a) Q) : cl h_Fo_field y_Fo_field [.ref 0, .int w, .int a] S Q := by
  have hn := hw.n
  unfold op_field at K
  by_cases h : sp_isW w 69 ∧ nI 1 ≤ a ∧ a ≤ nI 99
  · rw [sp_if_t h] at K
    obtain ⟨km, hk, rfl⟩ := (i_in (by decide)).mp h.1
    rw [nI_clamp (by omega)] at K
    by_cases h10 : sp_n q = 10
    · rw [sp_if_t h10] at K
      refine cl_in ml_Fo_field rfl rfl ?_
      refine wp_iload_n d_Fo_field_0 rfl rfl ?_
      refine wp_invS d_Fo_field_1 ow_Fo_field lk_7_62 (by decide) mi_Fo_isKm rfl rfl (Nat.le_of_ble_eq_true rfl) rfl (show h_Fo_isKm ≤ _ from by decide) (c_isKm _ ?_)
      refine wp_Ki ?_
      refine wp_ifB_eq (pc' := 17) d_Fo_field_4 (by decide) (fun h4 => absurd h.1 h4) (fun h4 => ?_)
      refine wp_iload_n d_Fo_field_7 rfl rfl ?_
      refine wp_iconst (x := nI 1) d_Fo_field_8 rfl ?_
      refine wp_bipush (x := nI 99) d_Fo_field_9 (by decide) ?_
      refine wp_invS d_Fo_field_11 ow_Fo_field lk_7_66 (by decide) mi_Fo_isWithin rfl rfl (Nat.le_of_ble_eq_true rfl) rfl (show h_Fo_isWithin ≤ _ from by decide) (c_isWithin _ _ _ ?_)
      refine wp_Ki ?_
      refine wp_ifB_ne (pc' := 23) d_Fo_field_14 (by decide) (fun h14 => ?_) (fun h14 => absurd h.2 h14)
      refine wp_aload_n d_Fo_field_23 rfl rfl ?_
      refine wp_getR d_Fo_field_24 ow_Fo_field fl_7_10 (O_0 _) rfl ?_
      refine wp_getI d_Fo_field_27 ow_Fo_field fl_7_74 (O_1 _) rfl (C.n.trans hn.2) ?_
      refine wp_bipush (x := nI 10) d_Fo_field_30 (by decide) ?_
      refine wp_icN_lt (pc' := 41) d_Fo_field_32 (by decide) (by omega) (by omega) (fun h32 => absurd h32 (by omega)) (fun h32 => ?_)
      refine wp_aload_n d_Fo_field_35 rfl rfl ?_
      refine wp_iconst (x := nI 4) d_Fo_field_36 rfl ?_
      refine wp_invV d_Fo_field_37 ow_Fo_field lk_7_70 (by decide) mi_Fo_error rfl rfl (Nat.le_of_ble_eq_true rfl) rfl (wp_isC (O_0 _)) (show h_Fo_error ≤ _ from by decide) (c_error 4 (by decide) (by decide) ?_)
      refine wp_Ki ?_
      refine wp_reti d_Fo_field_40 rt_Fo_field ?_
      exact cQ_er (e := 4) K (by decide) C fr.rf
    · rw [sp_if_f h10] at K
      have hlt : sp_n q < 10 := by omega
      generalize hN : sp_n q = N at *
      have hL : ∀ j, cLd (14 + 2 * N) j ∧ cLd (13 + 2 * N) j := fun j => ⟨by unfold cLd; omega, by unfold cLd; omega⟩
      have C4 := (((C.wf hlt (w := 0) (by decide) (nI (km / 10))).wf hlt (w := 1) (by decide) (nI (km % 10))).wf hlt (w := 2) (by decide) a).wf hlt (w := 3) (by decide) (nI 0)
      have C2 := ((((((C4.wtt hlt (o := 0) (by decide) (nI 0)).wtt hlt (o := 1) (by decide) (nI 0)).wtt hlt (o := 2) (by decide) (nI 0)).wtt hlt (o := 3) (by decide) (nI 0)).wf hlt (w := 4) (by decide) (-1)).wf hlt (w := 5) (by decide) (-1))
      have s4 := CLs_f (CLs_f (CLs_f (CLs_f (P := sp_us1 q) C.1.1 hlt (w := 0) (by decide) (nI (km / 10))) hlt (w := 1) (by decide) (nI (km % 10))) hlt (w := 2) (by decide) a) hlt (w := 3) (by decide) (nI 0)
      have s2 := CLs_f (CLs_f (CLs_t (CLs_t (CLs_t (CLs_t s4 hlt (o := 0) (by decide) (nI 0)) hlt (o := 1) (by decide) (nI 0)) hlt (o := 2) (by decide) (nI 0)) hlt (o := 3) (by decide) (nI 0)) hlt (w := 4) (by decide) (-1)) hlt (w := 5) (by decide) (-1)
      rw [sp_tz_e] at C2 s2
      have f2 : fr cLd S (wp_ls1 (wp_u (wp_u (wp_u (wp_u S (13 + 2 * N) 2 (nI (km / 10))) (13 + 2 * N) 3 (nI (km % 10))) (13 + 2 * N) 4 a) (13 + 2 * N) 5 (nI 0)) N) := (((((((((fr.rf.up (hL _).2).up (hL _).2).up (hL _).2).up (hL _).2).up (hL _).1).up (hL _).1).up (hL _).1).up (hL _).1).up (hL _).2).up (hL _).2
      have CF := CL_0 C2 s2 (n := N) hlt (fun j g1 g2 => by unfold sp_us1; rw [hN]; omega)
      have en : (wp_ls1 (wp_u (wp_u (wp_u (wp_u S (13 + 2 * N) 2 (nI (km / 10))) (13 + 2 * N) 3 (nI (km % 10))) (13 + 2 * N) 4 a) (13 + 2 * N) 5 (nI 0)) N).2 (13 + 2 * N) 0 = nI N := C2.2.1 N hlt
      have e0 : (wp_ls1 (wp_u (wp_u (wp_u (wp_u S (13 + 2 * N) 2 (nI (km / 10))) (13 + 2 * N) 3 (nI (km % 10))) (13 + 2 * N) 4 a) (13 + 2 * N) 5 (nI 0)) N).2 1 7 = nI N := C2.n.trans ((sp_tz_0 _ _).trans (by rw [sp_up_ne _ _ (by omega), sp_up_ne _ _ (by omega), sp_up_ne _ _ (by omega), sp_up_ne _ _ (by omega)]; exact hn.2))
      have CF : CL (wp_u (wp_ls1 (wp_u (wp_u (wp_u (wp_u S (13 + 2 * N) 2 (nI (km / 10))) (13 + 2 * N) 3 (nI (km % 10))) (13 + 2 * N) 4 a) (13 + 2 * N) 5 (nI 0)) N) 1 7 (nI (N + 1))) (sp_fi q km a) := by
        unfold sp_fi
        rw [hN]
        exact CF
      have bg := fun Q => c_begin (S := S) (Q := Q) hlt hk a
      generalize wp_ls1 (wp_u (wp_u (wp_u (wp_u S (13 + 2 * N) 2 (nI (km / 10))) (13 + 2 * N) 3 (nI (km % 10))) (13 + 2 * N) 4 a) (13 + 2 * N) 5 (nI 0)) N = S2 at CF f2 en e0 bg
      refine cl_in ml_Fo_field rfl rfl ?_
      refine wp_iload_n d_Fo_field_0 rfl rfl ?_
      refine wp_invS d_Fo_field_1 ow_Fo_field lk_7_62 (by decide) mi_Fo_isKm rfl rfl (Nat.le_of_ble_eq_true rfl) rfl (show h_Fo_isKm ≤ _ from by decide) (c_isKm _ ?_)
      refine wp_Ki ?_
      refine wp_ifB_eq (pc' := 17) d_Fo_field_4 (by decide) (fun h4 => absurd h.1 h4) (fun h4 => ?_)
      refine wp_iload_n d_Fo_field_7 rfl rfl ?_
      refine wp_iconst (x := nI 1) d_Fo_field_8 rfl ?_
      refine wp_bipush (x := nI 99) d_Fo_field_9 (by decide) ?_
      refine wp_invS d_Fo_field_11 ow_Fo_field lk_7_66 (by decide) mi_Fo_isWithin rfl rfl (Nat.le_of_ble_eq_true rfl) rfl (show h_Fo_isWithin ≤ _ from by decide) (c_isWithin _ _ _ ?_)
      refine wp_Ki ?_
      refine wp_ifB_ne (pc' := 23) d_Fo_field_14 (by decide) (fun h14 => ?_) (fun h14 => absurd h.2 h14)
      refine wp_aload_n d_Fo_field_23 rfl rfl ?_
      refine wp_getR d_Fo_field_24 ow_Fo_field fl_7_10 (O_0 _) rfl ?_
      refine wp_getI d_Fo_field_27 ow_Fo_field fl_7_74 (O_1 _) rfl (C.n.trans hn.2) ?_
      refine wp_bipush (x := nI 10) d_Fo_field_30 (by decide) ?_
      refine wp_icN_lt (pc' := 41) d_Fo_field_32 (by decide) (by omega) (by omega) (fun h32 => ?_) (fun h32 => absurd h32 (by omega))
      refine wp_aload_n d_Fo_field_41 rfl rfl ?_
      refine wp_getR d_Fo_field_42 ow_Fo_field fl_7_10 (O_0 _) rfl ?_
      refine wp_getR d_Fo_field_45 ow_Fo_field fl_7_77 (O_1 _) rfl ?_
      refine wp_aload_n d_Fo_field_48 rfl rfl ?_
      refine wp_getR d_Fo_field_49 ow_Fo_field fl_7_10 (O_0 _) rfl ?_
      refine wp_getI d_Fo_field_52 ow_Fo_field fl_7_74 (O_1 _) rfl (C.n.trans hn.2) ?_
      refine wp_aaload d_Fo_field_55 rfl (f_F (by omega)) (by decide) ?_
      refine wp_aston3 d_Fo_field_56 rfl ?_
      refine wp_aload_n d_Fo_field_57 rfl rfl ?_
      refine wp_iload_n d_Fo_field_58 rfl rfl ?_
      refine wp_iload_n d_Fo_field_59 rfl rfl ?_
      refine wp_invV d_Fo_field_60 ow_Fo_field lk_7_81 (by decide) mi_Fi_begin rfl rfl (Nat.le_of_ble_eq_true rfl) rfl (wp_isC (O_F _ (by omega))) (show h_Fi_begin ≤ _ from by decide) (bg _ ?_)
      refine wp_Kv ?_
      refine wp_aload_n d_Fo_field_63 rfl rfl ?_
      refine wp_getR d_Fo_field_64 ow_Fo_field fl_7_10 (O_0 _) rfl ?_
      refine wp_dup d_Fo_field_67 rfl ?_
      refine wp_getI d_Fo_field_68 ow_Fo_field fl_7_74 (O_1 _) rfl (e0) ?_
      refine wp_iconst (x := nI 1) d_Fo_field_71 rfl ?_
      refine wp_iadd d_Fo_field_72 (nI_add _ _) ?_
      refine wp_put (ty := .int) d_Fo_field_73 ow_Fo_field fl_7_74 (by decide +kernel) (by decide +kernel) (O_1 _) rfl ⟨rfl, rfl⟩ ?_
      refine wp_aload_n d_Fo_field_76 rfl rfl ?_
      refine wp_getI d_Fo_field_77 ow_Fo_field fl_7_87 (O_F _ (by omega)) rfl ((wp_un (by omega)).trans en) ?_
      refine wp_reti d_Fo_field_80 rt_Fo_field ?_
      exact cQ_ok K CF (fr_YL (f2.up ⟨by decide, by decide⟩))
  · rw [sp_if_f h] at K
    refine cl_in ml_Fo_field rfl rfl ?_
    refine wp_iload_n d_Fo_field_0 rfl rfl ?_
    refine wp_invS d_Fo_field_1 ow_Fo_field lk_7_62 (by decide) mi_Fo_isKm rfl rfl (Nat.le_of_ble_eq_true rfl) rfl (show h_Fo_isKm ≤ _ from by decide) (c_isKm _ ?_)
    refine wp_Ki ?_
    refine wp_ifB_eq (pc' := 17) d_Fo_field_4 (by decide) (fun h4 => ?_) (fun h4 => ?_)
    · refine wp_aload_n d_Fo_field_17 rfl rfl ?_
      refine wp_iconst (x := nI 1) d_Fo_field_18 rfl ?_
      refine wp_invV d_Fo_field_19 ow_Fo_field lk_7_70 (by decide) mi_Fo_error rfl rfl (Nat.le_of_ble_eq_true rfl) rfl (wp_isC (O_0 _)) (show h_Fo_error ≤ _ from by decide) (c_error 1 (by decide) (by decide) ?_)
      refine wp_Ki ?_
      refine wp_reti d_Fo_field_22 rt_Fo_field ?_
      exact cQ_er (e := 1) K (by decide) C fr.rf
    · refine wp_iload_n d_Fo_field_7 rfl rfl ?_
      refine wp_iconst (x := nI 1) d_Fo_field_8 rfl ?_
      refine wp_bipush (x := nI 99) d_Fo_field_9 (by decide) ?_
      refine wp_invS d_Fo_field_11 ow_Fo_field lk_7_66 (by decide) mi_Fo_isWithin rfl rfl (Nat.le_of_ble_eq_true rfl) rfl (show h_Fo_isWithin ≤ _ from by decide) (c_isWithin _ _ _ ?_)
      refine wp_Ki ?_
      refine wp_ifB_ne (pc' := 23) d_Fo_field_14 (by decide) (fun h14 => absurd ⟨h4, h14⟩ h) (fun h14 => ?_)
      refine wp_aload_n d_Fo_field_17 rfl rfl ?_
      refine wp_iconst (x := nI 1) d_Fo_field_18 rfl ?_
      refine wp_invV d_Fo_field_19 ow_Fo_field lk_7_70 (by decide) mi_Fo_error rfl rfl (Nat.le_of_ble_eq_true rfl) rfl (wp_isC (O_0 _)) (show h_Fo_error ≤ _ from by decide) (c_error 1 (by decide) (by decide) ?_)
      refine wp_Ki ?_
      refine wp_reti d_Fo_field_22 rt_Fo_field ?_
      exact cQ_er (e := 1) K (by decide) C fr.rf
theorem c_ku_s (a : Int32) (w k u : Nat) (hw : w ≤ 6) (hk : k < 7) (hu : u < 7) (K1 : w = k → Q (some (.int (nI 1))) S) (K2 : w ≠ k → wp (h_Fo_isKindUnder - 1) y_Fo_isKindUnder 4 [some (.int a), some (.int (nI w)), some (.int (sp_abv k)), some (.int (nI (u + 1)))] [] S Q) : wp (h_Fo_isKindUnder - 1) y_Fo_isKindUnder 4 [some (.int a), some (.int (nI w)), some (.int (nI k)), some (.int (nI u))] [] S Q := by
  rcases (show k = 0 ∨ k = 1 ∨ k = 2 ∨ k = 3 ∨ k = 4 ∨ k = 5 ∨ k = 6 by omega) with rfl | rfl | rfl | rfl | rfl | rfl | rfl
  · refine wp_iload_n d_Fo_isKindUnder_4 rfl rfl ?_
    refine wp_bipush (x := nI 7) d_Fo_isKindUnder_5 (by decide) ?_
    refine wp_icN_ge (pc' := 31) d_Fo_isKindUnder_7 (by decide) (by omega) (by omega) (fun h7 => absurd h7 (by omega)) (fun h7 => ?_)
    refine wp_iload_n d_Fo_isKindUnder_10 rfl rfl ?_
    refine wp_ifN_lt (pc' := 31) d_Fo_isKindUnder_11 (by decide) (by omega) ?_
    refine wp_iload_n d_Fo_isKindUnder_14 rfl rfl ?_
    refine wp_iload_n d_Fo_isKindUnder_15 rfl rfl ?_
    refine wp_icN_eq (pc' := 31) d_Fo_isKindUnder_16 (by decide) (by omega) (by omega) (fun h16 => ?_) (fun h16 => ?_)
    · refine wp_iload_n d_Fo_isKindUnder_31 rfl rfl ?_
      refine wp_iload_n d_Fo_isKindUnder_32 rfl rfl ?_
      refine wp_icN_ne (pc' := 40) d_Fo_isKindUnder_33 (by decide) (by omega) (by omega) (fun g33 => absurd h16 (fun z => g33 z)) (fun g33 => ?_)
      refine wp_iconst (x := nI 1) d_Fo_isKindUnder_36 rfl ?_
      refine wp_goto (pc' := 41) d_Fo_isKindUnder_37 (by decide) ?_
      refine wp_retz d_Fo_isKindUnder_41 rt_Fo_isKindUnder (by first | exact Or.inl rfl | exact Or.inr rfl) ?_
      exact K1 h16.symm
    · refine wp_getstatic d_Fo_isKindUnder_19 ow_Fo_isKindUnder gs_7_296 ?_
      refine wp_iload_n d_Fo_isKindUnder_22 rfl rfl ?_
      refine wp_ialoadC d_Fo_isKindUnder_23 rfl (by omega) (by decide) ((rfl : _ = sp_abv 0)) ?_
      refine wp_iston2 d_Fo_isKindUnder_24 rfl ?_
      refine wp_iinc3 d_Fo_isKindUnder_25 rfl (nI_add _ 1) ?_
      refine wp_goto (pc' := 4) d_Fo_isKindUnder_28 (by decide) ?_
      exact K2 (fun z => h16 z.symm)
  · refine wp_iload_n d_Fo_isKindUnder_4 rfl rfl ?_
    refine wp_bipush (x := nI 7) d_Fo_isKindUnder_5 (by decide) ?_
    refine wp_icN_ge (pc' := 31) d_Fo_isKindUnder_7 (by decide) (by omega) (by omega) (fun h7 => absurd h7 (by omega)) (fun h7 => ?_)
    refine wp_iload_n d_Fo_isKindUnder_10 rfl rfl ?_
    refine wp_ifN_lt (pc' := 31) d_Fo_isKindUnder_11 (by decide) (by omega) ?_
    refine wp_iload_n d_Fo_isKindUnder_14 rfl rfl ?_
    refine wp_iload_n d_Fo_isKindUnder_15 rfl rfl ?_
    refine wp_icN_eq (pc' := 31) d_Fo_isKindUnder_16 (by decide) (by omega) (by omega) (fun h16 => ?_) (fun h16 => ?_)
    · refine wp_iload_n d_Fo_isKindUnder_31 rfl rfl ?_
      refine wp_iload_n d_Fo_isKindUnder_32 rfl rfl ?_
      refine wp_icN_ne (pc' := 40) d_Fo_isKindUnder_33 (by decide) (by omega) (by omega) (fun g33 => absurd h16 (fun z => g33 z)) (fun g33 => ?_)
      refine wp_iconst (x := nI 1) d_Fo_isKindUnder_36 rfl ?_
      refine wp_goto (pc' := 41) d_Fo_isKindUnder_37 (by decide) ?_
      refine wp_retz d_Fo_isKindUnder_41 rt_Fo_isKindUnder (by first | exact Or.inl rfl | exact Or.inr rfl) ?_
      exact K1 h16.symm
    · refine wp_getstatic d_Fo_isKindUnder_19 ow_Fo_isKindUnder gs_7_296 ?_
      refine wp_iload_n d_Fo_isKindUnder_22 rfl rfl ?_
      refine wp_ialoadC d_Fo_isKindUnder_23 rfl (by omega) (by decide) ((rfl : _ = sp_abv 1)) ?_
      refine wp_iston2 d_Fo_isKindUnder_24 rfl ?_
      refine wp_iinc3 d_Fo_isKindUnder_25 rfl (nI_add _ 1) ?_
      refine wp_goto (pc' := 4) d_Fo_isKindUnder_28 (by decide) ?_
      exact K2 (fun z => h16 z.symm)
  · refine wp_iload_n d_Fo_isKindUnder_4 rfl rfl ?_
    refine wp_bipush (x := nI 7) d_Fo_isKindUnder_5 (by decide) ?_
    refine wp_icN_ge (pc' := 31) d_Fo_isKindUnder_7 (by decide) (by omega) (by omega) (fun h7 => absurd h7 (by omega)) (fun h7 => ?_)
    refine wp_iload_n d_Fo_isKindUnder_10 rfl rfl ?_
    refine wp_ifN_lt (pc' := 31) d_Fo_isKindUnder_11 (by decide) (by omega) ?_
    refine wp_iload_n d_Fo_isKindUnder_14 rfl rfl ?_
    refine wp_iload_n d_Fo_isKindUnder_15 rfl rfl ?_
    refine wp_icN_eq (pc' := 31) d_Fo_isKindUnder_16 (by decide) (by omega) (by omega) (fun h16 => ?_) (fun h16 => ?_)
    · refine wp_iload_n d_Fo_isKindUnder_31 rfl rfl ?_
      refine wp_iload_n d_Fo_isKindUnder_32 rfl rfl ?_
      refine wp_icN_ne (pc' := 40) d_Fo_isKindUnder_33 (by decide) (by omega) (by omega) (fun g33 => absurd h16 (fun z => g33 z)) (fun g33 => ?_)
      refine wp_iconst (x := nI 1) d_Fo_isKindUnder_36 rfl ?_
      refine wp_goto (pc' := 41) d_Fo_isKindUnder_37 (by decide) ?_
      refine wp_retz d_Fo_isKindUnder_41 rt_Fo_isKindUnder (by first | exact Or.inl rfl | exact Or.inr rfl) ?_
      exact K1 h16.symm
    · refine wp_getstatic d_Fo_isKindUnder_19 ow_Fo_isKindUnder gs_7_296 ?_
      refine wp_iload_n d_Fo_isKindUnder_22 rfl rfl ?_
      refine wp_ialoadC d_Fo_isKindUnder_23 rfl (by omega) (by decide) ((rfl : _ = sp_abv 2)) ?_
      refine wp_iston2 d_Fo_isKindUnder_24 rfl ?_
      refine wp_iinc3 d_Fo_isKindUnder_25 rfl (nI_add _ 1) ?_
      refine wp_goto (pc' := 4) d_Fo_isKindUnder_28 (by decide) ?_
      exact K2 (fun z => h16 z.symm)
  · refine wp_iload_n d_Fo_isKindUnder_4 rfl rfl ?_
    refine wp_bipush (x := nI 7) d_Fo_isKindUnder_5 (by decide) ?_
    refine wp_icN_ge (pc' := 31) d_Fo_isKindUnder_7 (by decide) (by omega) (by omega) (fun h7 => absurd h7 (by omega)) (fun h7 => ?_)
    refine wp_iload_n d_Fo_isKindUnder_10 rfl rfl ?_
    refine wp_ifN_lt (pc' := 31) d_Fo_isKindUnder_11 (by decide) (by omega) ?_
    refine wp_iload_n d_Fo_isKindUnder_14 rfl rfl ?_
    refine wp_iload_n d_Fo_isKindUnder_15 rfl rfl ?_
    refine wp_icN_eq (pc' := 31) d_Fo_isKindUnder_16 (by decide) (by omega) (by omega) (fun h16 => ?_) (fun h16 => ?_)
    · refine wp_iload_n d_Fo_isKindUnder_31 rfl rfl ?_
      refine wp_iload_n d_Fo_isKindUnder_32 rfl rfl ?_
      refine wp_icN_ne (pc' := 40) d_Fo_isKindUnder_33 (by decide) (by omega) (by omega) (fun g33 => absurd h16 (fun z => g33 z)) (fun g33 => ?_)
      refine wp_iconst (x := nI 1) d_Fo_isKindUnder_36 rfl ?_
      refine wp_goto (pc' := 41) d_Fo_isKindUnder_37 (by decide) ?_
      refine wp_retz d_Fo_isKindUnder_41 rt_Fo_isKindUnder (by first | exact Or.inl rfl | exact Or.inr rfl) ?_
      exact K1 h16.symm
    · refine wp_getstatic d_Fo_isKindUnder_19 ow_Fo_isKindUnder gs_7_296 ?_
      refine wp_iload_n d_Fo_isKindUnder_22 rfl rfl ?_
      refine wp_ialoadC d_Fo_isKindUnder_23 rfl (by omega) (by decide) ((rfl : _ = sp_abv 3)) ?_
      refine wp_iston2 d_Fo_isKindUnder_24 rfl ?_
      refine wp_iinc3 d_Fo_isKindUnder_25 rfl (nI_add _ 1) ?_
      refine wp_goto (pc' := 4) d_Fo_isKindUnder_28 (by decide) ?_
      exact K2 (fun z => h16 z.symm)
  · refine wp_iload_n d_Fo_isKindUnder_4 rfl rfl ?_
    refine wp_bipush (x := nI 7) d_Fo_isKindUnder_5 (by decide) ?_
    refine wp_icN_ge (pc' := 31) d_Fo_isKindUnder_7 (by decide) (by omega) (by omega) (fun h7 => absurd h7 (by omega)) (fun h7 => ?_)
    refine wp_iload_n d_Fo_isKindUnder_10 rfl rfl ?_
    refine wp_ifN_lt (pc' := 31) d_Fo_isKindUnder_11 (by decide) (by omega) ?_
    refine wp_iload_n d_Fo_isKindUnder_14 rfl rfl ?_
    refine wp_iload_n d_Fo_isKindUnder_15 rfl rfl ?_
    refine wp_icN_eq (pc' := 31) d_Fo_isKindUnder_16 (by decide) (by omega) (by omega) (fun h16 => ?_) (fun h16 => ?_)
    · refine wp_iload_n d_Fo_isKindUnder_31 rfl rfl ?_
      refine wp_iload_n d_Fo_isKindUnder_32 rfl rfl ?_
      refine wp_icN_ne (pc' := 40) d_Fo_isKindUnder_33 (by decide) (by omega) (by omega) (fun g33 => absurd h16 (fun z => g33 z)) (fun g33 => ?_)
      refine wp_iconst (x := nI 1) d_Fo_isKindUnder_36 rfl ?_
      refine wp_goto (pc' := 41) d_Fo_isKindUnder_37 (by decide) ?_
      refine wp_retz d_Fo_isKindUnder_41 rt_Fo_isKindUnder (by first | exact Or.inl rfl | exact Or.inr rfl) ?_
      exact K1 h16.symm
    · refine wp_getstatic d_Fo_isKindUnder_19 ow_Fo_isKindUnder gs_7_296 ?_
      refine wp_iload_n d_Fo_isKindUnder_22 rfl rfl ?_
      refine wp_ialoadC d_Fo_isKindUnder_23 rfl (by omega) (by decide) ((rfl : _ = sp_abv 4)) ?_
      refine wp_iston2 d_Fo_isKindUnder_24 rfl ?_
      refine wp_iinc3 d_Fo_isKindUnder_25 rfl (nI_add _ 1) ?_
      refine wp_goto (pc' := 4) d_Fo_isKindUnder_28 (by decide) ?_
      exact K2 (fun z => h16 z.symm)
  · refine wp_iload_n d_Fo_isKindUnder_4 rfl rfl ?_
    refine wp_bipush (x := nI 7) d_Fo_isKindUnder_5 (by decide) ?_
    refine wp_icN_ge (pc' := 31) d_Fo_isKindUnder_7 (by decide) (by omega) (by omega) (fun h7 => absurd h7 (by omega)) (fun h7 => ?_)
    refine wp_iload_n d_Fo_isKindUnder_10 rfl rfl ?_
    refine wp_ifN_lt (pc' := 31) d_Fo_isKindUnder_11 (by decide) (by omega) ?_
    refine wp_iload_n d_Fo_isKindUnder_14 rfl rfl ?_
    refine wp_iload_n d_Fo_isKindUnder_15 rfl rfl ?_
    refine wp_icN_eq (pc' := 31) d_Fo_isKindUnder_16 (by decide) (by omega) (by omega) (fun h16 => ?_) (fun h16 => ?_)
    · refine wp_iload_n d_Fo_isKindUnder_31 rfl rfl ?_
      refine wp_iload_n d_Fo_isKindUnder_32 rfl rfl ?_
      refine wp_icN_ne (pc' := 40) d_Fo_isKindUnder_33 (by decide) (by omega) (by omega) (fun g33 => absurd h16 (fun z => g33 z)) (fun g33 => ?_)
      refine wp_iconst (x := nI 1) d_Fo_isKindUnder_36 rfl ?_
      refine wp_goto (pc' := 41) d_Fo_isKindUnder_37 (by decide) ?_
      refine wp_retz d_Fo_isKindUnder_41 rt_Fo_isKindUnder (by first | exact Or.inl rfl | exact Or.inr rfl) ?_
      exact K1 h16.symm
    · refine wp_getstatic d_Fo_isKindUnder_19 ow_Fo_isKindUnder gs_7_296 ?_
      refine wp_iload_n d_Fo_isKindUnder_22 rfl rfl ?_
      refine wp_ialoadC d_Fo_isKindUnder_23 rfl (by omega) (by decide) ((rfl : _ = sp_abv 5)) ?_
      refine wp_iston2 d_Fo_isKindUnder_24 rfl ?_
      refine wp_iinc3 d_Fo_isKindUnder_25 rfl (nI_add _ 1) ?_
      refine wp_goto (pc' := 4) d_Fo_isKindUnder_28 (by decide) ?_
      exact K2 (fun z => h16 z.symm)
  · refine wp_iload_n d_Fo_isKindUnder_4 rfl rfl ?_
    refine wp_bipush (x := nI 7) d_Fo_isKindUnder_5 (by decide) ?_
    refine wp_icN_ge (pc' := 31) d_Fo_isKindUnder_7 (by decide) (by omega) (by omega) (fun h7 => absurd h7 (by omega)) (fun h7 => ?_)
    refine wp_iload_n d_Fo_isKindUnder_10 rfl rfl ?_
    refine wp_ifN_lt (pc' := 31) d_Fo_isKindUnder_11 (by decide) (by omega) ?_
    refine wp_iload_n d_Fo_isKindUnder_14 rfl rfl ?_
    refine wp_iload_n d_Fo_isKindUnder_15 rfl rfl ?_
    refine wp_icN_eq (pc' := 31) d_Fo_isKindUnder_16 (by decide) (by omega) (by omega) (fun h16 => ?_) (fun h16 => ?_)
    · refine wp_iload_n d_Fo_isKindUnder_31 rfl rfl ?_
      refine wp_iload_n d_Fo_isKindUnder_32 rfl rfl ?_
      refine wp_icN_ne (pc' := 40) d_Fo_isKindUnder_33 (by decide) (by omega) (by omega) (fun g33 => absurd h16 (fun z => g33 z)) (fun g33 => ?_)
      refine wp_iconst (x := nI 1) d_Fo_isKindUnder_36 rfl ?_
      refine wp_goto (pc' := 41) d_Fo_isKindUnder_37 (by decide) ?_
      refine wp_retz d_Fo_isKindUnder_41 rt_Fo_isKindUnder (by first | exact Or.inl rfl | exact Or.inr rfl) ?_
      exact K1 h16.symm
    · refine wp_getstatic d_Fo_isKindUnder_19 ow_Fo_isKindUnder gs_7_296 ?_
      refine wp_iload_n d_Fo_isKindUnder_22 rfl rfl ?_
      refine wp_ialoadC d_Fo_isKindUnder_23 rfl (by omega) (by decide) ((rfl : _ = sp_abv 6)) ?_
      refine wp_iston2 d_Fo_isKindUnder_24 rfl ?_
      refine wp_iinc3 d_Fo_isKindUnder_25 rfl (nI_add _ 1) ?_
      refine wp_goto (pc' := 4) d_Fo_isKindUnder_28 (by decide) ?_
      exact K2 (fun z => h16 z.symm)
theorem c_ku_m (a : Int32) (w u : Nat) (hw : w ≤ 6) (hu : u < 7) (K : Q (some (.int (nI 0))) S) : wp (h_Fo_isKindUnder - 1) y_Fo_isKindUnder 4 [some (.int a), some (.int (nI w)), some (.int (-1)), some (.int (nI u))] [] S Q := by
  refine wp_iload_n d_Fo_isKindUnder_4 rfl rfl ?_
  refine wp_bipush (x := nI 7) d_Fo_isKindUnder_5 (by decide) ?_
  refine wp_icN_ge (pc' := 31) d_Fo_isKindUnder_7 (by decide) (by omega) (by omega) (fun h7 => absurd h7 (by omega)) (fun h7 => ?_)
  refine wp_iload_n d_Fo_isKindUnder_10 rfl rfl ?_
  refine wp_if_lt (pc' := 31) d_Fo_isKindUnder_11 (by decide) (fun h11 => ?_) (fun h11 => absurd (show (-1 : Int32) < 0 from by decide) h11)
  refine wp_iload_n d_Fo_isKindUnder_31 rfl rfl ?_
  refine wp_iload_n d_Fo_isKindUnder_32 rfl rfl ?_
  refine wp_ic_ne (pc' := 40) d_Fo_isKindUnder_33 (by decide) (fun h33 => ?_) (fun h33 => absurd h33 (by intro z; have := congrArg Int32.toInt z; rw [nI_toInt (by omega)] at this; have h1 : (-1 : Int32).toInt = -1 := (by decide); omega))
  refine wp_iconst (x := nI 0) d_Fo_isKindUnder_40 rfl ?_
  refine wp_retz d_Fo_isKindUnder_41 rt_Fo_isKindUnder (by first | exact Or.inl rfl | exact Or.inr rfl) ?_
  exact K
theorem c_isKindUnder (w k : Nat) (hw : w ≤ 6) (hk : k < 7) (K1 : sp_un k w → Q (some (.int (nI 1))) S) (K0 : ¬ sp_un k w → Q (some (.int (nI 0))) S) : cl h_Fo_isKindUnder y_Fo_isKindUnder [.int (nI k), .int (nI w)] S Q := by
  have s0 : ∀ a u, u < 6 → (w = 0 → Q (some (.int (nI 1))) S) → (w ≠ 0 → Q (some (.int (nI 0))) S) → wp (h_Fo_isKindUnder - 1) y_Fo_isKindUnder 4 [some (.int a), some (.int (nI w)), some (.int (nI 0)), some (.int (nI u))] [] S Q := fun a u hu k1 k0 => c_ku_s a w 0 u hw (by decide) (by omega) k1 (fun z => c_ku_m a w (u + 1) hw (by omega) (k0 z))
  have s1 : ∀ k a u, k < 4 → k ≠ 0 → u < 5 → (w = k ∨ w = 0 → Q (some (.int (nI 1))) S) → (¬ (w = k ∨ w = 0) → Q (some (.int (nI 0))) S) → wp (h_Fo_isKindUnder - 1) y_Fo_isKindUnder 4 [some (.int a), some (.int (nI w)), some (.int (nI k)), some (.int (nI u))] [] S Q := fun k a u hk hk0 hu k1 k0 => c_ku_s a w k u hw (by omega) (by omega) (fun z => k1 (Or.inl z)) (fun z => by
    have e : sp_abv k = nI 0 := by
      unfold sp_abv
      rw [if_neg hk0, if_neg (by omega), if_neg (by omega), if_neg (by omega)]
    rw [e]
    exact s0 a (u + 1) (by omega) (fun y => k1 (Or.inr y)) (fun y => k0 (fun t => t.elim z y)))
  have s2 : ∀ k k' a u, k < 7 → sp_abv k = nI k' → k' < 4 → k' ≠ 0 → u < 4 → (w = k ∨ w = k' ∨ w = 0 → Q (some (.int (nI 1))) S) → (¬ (w = k ∨ w = k' ∨ w = 0) → Q (some (.int (nI 0))) S) → wp (h_Fo_isKindUnder - 1) y_Fo_isKindUnder 4 [some (.int a), some (.int (nI w)), some (.int (nI k)), some (.int (nI u))] [] S Q := fun k k' a u hk e h1 h2 hu k1 k0 => c_ku_s a w k u hw hk (by omega) (fun z => k1 (Or.inl z)) (fun z => by
    rw [e]
    exact s1 k' a (u + 1) h1 h2 (by omega) (fun y => k1 (Or.inr y)) (fun y => k0 (fun t => t.elim z y)))
  refine cl_in ml_Fo_isKindUnder rfl rfl ?_
  refine wp_iload_n d_Fo_isKindUnder_0 rfl rfl ?_
  refine wp_iston2 d_Fo_isKindUnder_1 rfl ?_
  refine wp_iconst (x := nI 0) d_Fo_isKindUnder_2 rfl ?_
  refine wp_iston3 d_Fo_isKindUnder_3 rfl ?_
  skip
  rcases (show k = 0 ∨ k = 1 ∨ k = 2 ∨ k = 3 ∨ k = 4 ∨ k = 5 ∨ k = 6 by omega) with rfl | rfl | rfl | rfl | rfl | rfl | rfl
  · exact s0 _ 0 (by decide) (fun z => K1 (by unfold sp_un; omega)) (fun z => K0 (by unfold sp_un; omega))
  · exact s1 1 _ 0 (by decide) (by decide) (by decide) (fun z => K1 (by unfold sp_un; omega)) (fun z => K0 (by unfold sp_un; omega))
  · exact s1 2 _ 0 (by decide) (by decide) (by decide) (fun z => K1 (by unfold sp_un; omega)) (fun z => K0 (by unfold sp_un; omega))
  · exact s1 3 _ 0 (by decide) (by decide) (by decide) (fun z => K1 (by unfold sp_un; omega)) (fun z => K0 (by unfold sp_un; omega))
  · exact s2 4 1 _ 0 (by decide) rfl (by decide) (by decide) (by decide) (fun z => K1 (by unfold sp_un; omega)) (fun z => K0 (by unfold sp_un; omega))
  · exact s2 5 2 _ 0 (by decide) rfl (by decide) (by decide) (by decide) (fun z => K1 (by unfold sp_un; omega)) (fun z => K0 (by unfold sp_un; omega))
  · exact s2 6 3 _ 0 (by decide) rfl (by decide) (by decide) (by decide) (fun z => K1 (by unfold sp_un; omega)) (fun z => K0 (by unfold sp_un; omega))
theorem c_as (C : CL S q) (hw : sp_wf q) (v w : Int32) (K : cQ S (op_as q v w) Q) : cl h_Fo_as y_Fo_as [.ref 0, .int v, .int w] S Q := by
  have hn := hw.n
  unfold op_as at K
  by_cases h : sp_isF q v ∧ sp_isW w 6
  · rw [sp_if_t h] at K
    obtain ⟨i, hi, rfl⟩ := sp_isF_of hw h.1
    obtain ⟨k, hk, rfl⟩ := (i_in (by decide)).mp h.2
    rw [nI_clamp (by omega), nI_clamp (by omega)] at K
    obtain ⟨g1, g2⟩ := (hw.f hi).kd
    refine cl_in ml_Fo_as rfl rfl ?_
    refine wp_aload_n d_Fo_as_0 rfl rfl ?_
    refine wp_getR d_Fo_as_1 ow_Fo_as fl_7_10 (O_0 _) rfl ?_
    refine wp_iload_n d_Fo_as_4 rfl rfl ?_
    refine wp_invV d_Fo_as_5 ow_Fo_as lk_7_90 (by decide) mi_La_has rfl rfl (Nat.le_of_ble_eq_true rfl) rfl (wp_isC (O_1 _)) (show h_La_has ≤ _ from by decide) (c_has C _ ?_)
    refine wp_Ki ?_
    refine wp_ifB_eq (pc' := 21) d_Fo_as_8 (by decide) (fun h8 => absurd h.1 h8) (fun h8 => ?_)
    refine wp_iload_n d_Fo_as_11 rfl rfl ?_
    refine wp_iconst (x := nI 0) d_Fo_as_12 rfl ?_
    refine wp_bipush (x := nI 6) d_Fo_as_13 (by decide) ?_
    refine wp_invS d_Fo_as_15 ow_Fo_as lk_7_66 (by decide) mi_Fo_isWithin rfl rfl (Nat.le_of_ble_eq_true rfl) rfl (show h_Fo_isWithin ≤ _ from by decide) (c_isWithin _ _ _ ?_)
    refine wp_Ki ?_
    refine wp_ifB_ne (pc' := 27) d_Fo_as_18 (by decide) (fun h18 => ?_) (fun h18 => absurd h.2 h18)
    refine wp_aload_n d_Fo_as_27 rfl rfl ?_
    refine wp_getR d_Fo_as_28 ow_Fo_as fl_7_10 (O_0 _) rfl ?_
    refine wp_getR d_Fo_as_31 ow_Fo_as fl_7_77 (O_1 _) rfl ?_
    refine wp_iload_n d_Fo_as_34 rfl rfl ?_
    refine wp_aaload d_Fo_as_35 rfl (f_F (by omega)) (by decide) ?_
    refine wp_aston3 d_Fo_as_36 rfl ?_
    refine wp_aload_n d_Fo_as_37 rfl rfl ?_
    refine wp_getI d_Fo_as_38 ow_Fo_as fl_7_93 (O_F _ (by omega)) rfl ((C.f (by omega) (w := 0) (by decide)).trans g2) ?_
    refine wp_iload_n d_Fo_as_41 rfl rfl ?_
    refine wp_invS d_Fo_as_42 ow_Fo_as lk_7_143 (by decide) mi_Fo_isKindUnder rfl rfl (Nat.le_of_ble_eq_true rfl) rfl (show h_Fo_isKindUnder ≤ _ from by decide) (c_isKindUnder k (sp_kd q i) hk g1 (fun z => ?_) (fun z => ?_))
    · rw [sp_if_t z] at K
      refine wp_Ki ?_
      refine wp_ifN_ne (pc' := 54) d_Fo_as_45 (by decide) (by omega) (fun _ => ?_) (fun q => absurd q (by decide))
      refine wp_aload_n d_Fo_as_54 rfl rfl ?_
      refine wp_getI d_Fo_as_55 ow_Fo_as fl_7_96 (O_F _ (by omega)) rfl (C.f (by omega) (w := 1) (by decide)) ?_
      refine wp_reti d_Fo_as_58 rt_Fo_as ?_
      exact cQ_ok K C fr.rf
    · rw [sp_if_f z] at K
      refine wp_Ki ?_
      refine wp_ifN_ne (pc' := 54) d_Fo_as_45 (by decide) (by omega) (fun q => absurd q (by decide)) (fun _ => ?_)
      refine wp_aload_n d_Fo_as_48 rfl rfl ?_
      refine wp_iconst (x := nI 5) d_Fo_as_49 rfl ?_
      refine wp_invV d_Fo_as_50 ow_Fo_as lk_7_70 (by decide) mi_Fo_error rfl rfl (Nat.le_of_ble_eq_true rfl) rfl (wp_isC (O_0 _)) (show h_Fo_error ≤ _ from by decide) (c_error 5 (by decide) (by decide) ?_)
      refine wp_Ki ?_
      refine wp_reti d_Fo_as_53 rt_Fo_as ?_
      exact cQ_er (e := 5) K (by decide) C fr.rf
  · rw [sp_if_f h] at K
    refine cl_in ml_Fo_as rfl rfl ?_
    refine wp_aload_n d_Fo_as_0 rfl rfl ?_
    refine wp_getR d_Fo_as_1 ow_Fo_as fl_7_10 (O_0 _) rfl ?_
    refine wp_iload_n d_Fo_as_4 rfl rfl ?_
    refine wp_invV d_Fo_as_5 ow_Fo_as lk_7_90 (by decide) mi_La_has rfl rfl (Nat.le_of_ble_eq_true rfl) rfl (wp_isC (O_1 _)) (show h_La_has ≤ _ from by decide) (c_has C _ ?_)
    refine wp_Ki ?_
    refine wp_ifB_eq (pc' := 21) d_Fo_as_8 (by decide) (fun h8 => ?_) (fun h8 => ?_)
    · refine wp_aload_n d_Fo_as_21 rfl rfl ?_
      refine wp_iconst (x := nI 1) d_Fo_as_22 rfl ?_
      refine wp_invV d_Fo_as_23 ow_Fo_as lk_7_70 (by decide) mi_Fo_error rfl rfl (Nat.le_of_ble_eq_true rfl) rfl (wp_isC (O_0 _)) (show h_Fo_error ≤ _ from by decide) (c_error 1 (by decide) (by decide) ?_)
      refine wp_Ki ?_
      refine wp_reti d_Fo_as_26 rt_Fo_as ?_
      exact cQ_er (e := 1) K (by decide) C fr.rf
    · refine wp_iload_n d_Fo_as_11 rfl rfl ?_
      refine wp_iconst (x := nI 0) d_Fo_as_12 rfl ?_
      refine wp_bipush (x := nI 6) d_Fo_as_13 (by decide) ?_
      refine wp_invS d_Fo_as_15 ow_Fo_as lk_7_66 (by decide) mi_Fo_isWithin rfl rfl (Nat.le_of_ble_eq_true rfl) rfl (show h_Fo_isWithin ≤ _ from by decide) (c_isWithin _ _ _ ?_)
      refine wp_Ki ?_
      refine wp_ifB_ne (pc' := 27) d_Fo_as_18 (by decide) (fun h18 => absurd ⟨h8, h18⟩ h) (fun h18 => ?_)
      refine wp_aload_n d_Fo_as_21 rfl rfl ?_
      refine wp_iconst (x := nI 1) d_Fo_as_22 rfl ?_
      refine wp_invV d_Fo_as_23 ow_Fo_as lk_7_70 (by decide) mi_Fo_error rfl rfl (Nat.le_of_ble_eq_true rfl) rfl (wp_isC (O_0 _)) (show h_Fo_error ≤ _ from by decide) (c_error 1 (by decide) (by decide) ?_)
      refine wp_Ki ?_
      refine wp_reti d_Fo_as_26 rt_Fo_as ?_
      exact cQ_er (e := 1) K (by decide) C fr.rf
theorem c_tell (C : CL S q) (hw : sp_wf q) (v : Int32) (K : cQ S (op_tell q v) Q) : cl h_Fo_tell y_Fo_tell [.ref 0, .int v] S Q := by
  obtain ⟨n, hn, e⟩ := hw.2.2.2.2.2.2.1
  unfold op_tell at K
  rw [e, nI_clamp (by omega), nI_add] at K
  have C5 : ∀ {S' : wp_S} {p : sp_R}, CL S' p → S'.2 1 13 = p 5 := fun C => C.sc 5 (by decide) (by decide) (by decide)
  have e1 : sp_up q (163 + n) v 5 = nI n := (sp_up_ne _ _ (by omega)).trans e
  by_cases h20 : n = 20
  · rw [sp_if_t (by rw [h20])] at K
    refine cl_in ml_Fo_tell rfl rfl ?_
    refine wp_aload_n d_Fo_tell_0 rfl rfl ?_
    refine wp_getR d_Fo_tell_1 ow_Fo_tell fl_7_10 (O_0 _) rfl ?_
    refine wp_getI d_Fo_tell_4 ow_Fo_tell fl_7_283 (O_1 _) rfl ((C5 C).trans e) ?_
    refine wp_bipush (x := nI 20) d_Fo_tell_7 (by decide) ?_
    refine wp_icN_lt (pc' := 18) d_Fo_tell_9 (by decide) (by omega) (by omega) (fun h9 => absurd h9 (by omega)) (fun h9 => ?_)
    refine wp_aload_n d_Fo_tell_12 rfl rfl ?_
    refine wp_iconst (x := nI 4) d_Fo_tell_13 rfl ?_
    refine wp_invV d_Fo_tell_14 ow_Fo_tell lk_7_70 (by decide) mi_Fo_error rfl rfl (Nat.le_of_ble_eq_true rfl) rfl (wp_isC (O_0 _)) (show h_Fo_error ≤ _ from by decide) (c_error 4 (by decide) (by decide) ?_)
    refine wp_Ki ?_
    refine wp_reti d_Fo_tell_17 rt_Fo_tell ?_
    exact cQ_er (e := 4) K (by decide) C fr.rf
  · rw [sp_if_f (fun z => h20 ((nI_eq (by omega) (by decide)).mp z))] at K
    have C2 := C.w (j := 163 + n) (by omega) (by omega) (by omega) v
    rw [cc_w] at C2
    have C3 := C2.w (j := 5) (by decide) (by decide) (by decide) (nI (n + 1))
    refine cl_in ml_Fo_tell rfl rfl ?_
    refine wp_aload_n d_Fo_tell_0 rfl rfl ?_
    refine wp_getR d_Fo_tell_1 ow_Fo_tell fl_7_10 (O_0 _) rfl ?_
    refine wp_getI d_Fo_tell_4 ow_Fo_tell fl_7_283 (O_1 _) rfl ((C5 C).trans e) ?_
    refine wp_bipush (x := nI 20) d_Fo_tell_7 (by decide) ?_
    refine wp_icN_lt (pc' := 18) d_Fo_tell_9 (by decide) (by omega) (by omega) (fun h9 => ?_) (fun h9 => absurd h9 (by omega))
    refine wp_aload_n d_Fo_tell_18 rfl rfl ?_
    refine wp_getR d_Fo_tell_19 ow_Fo_tell fl_7_10 (O_0 _) rfl ?_
    refine wp_getR d_Fo_tell_22 ow_Fo_tell fl_7_286 (O_1 _) rfl ?_
    refine wp_aload_n d_Fo_tell_25 rfl rfl ?_
    refine wp_getR d_Fo_tell_26 ow_Fo_tell fl_7_10 (O_0 _) rfl ?_
    refine wp_getI d_Fo_tell_29 ow_Fo_tell fl_7_283 (O_1 _) rfl ((C5 C).trans e) ?_
    refine wp_iload_n d_Fo_tell_32 rfl rfl ?_
    refine wp_iastore d_Fo_tell_33 (A_11 _) (by omega) (by decide) ?_
    refine wp_aload_n d_Fo_tell_34 rfl rfl ?_
    refine wp_getR d_Fo_tell_35 ow_Fo_tell fl_7_10 (O_0 _) rfl ?_
    refine wp_dup d_Fo_tell_38 rfl ?_
    refine wp_getI d_Fo_tell_39 ow_Fo_tell fl_7_283 (O_1 _) rfl ((C5 C2).trans e1) ?_
    refine wp_iconst (x := nI 1) d_Fo_tell_42 rfl ?_
    refine wp_iadd d_Fo_tell_43 (nI_add _ _) ?_
    refine wp_put (ty := .int) d_Fo_tell_44 ow_Fo_tell fl_7_283 (by decide +kernel) (by decide +kernel) (O_1 _) rfl ⟨rfl, rfl⟩ ?_
    refine wp_aload_n d_Fo_tell_47 rfl rfl ?_
    refine wp_getR d_Fo_tell_48 ow_Fo_tell fl_7_10 (O_0 _) rfl ?_
    refine wp_getI d_Fo_tell_51 ow_Fo_tell fl_7_283 (O_1 _) rfl (wp_us) ?_
    refine wp_reti d_Fo_tell_54 rt_Fo_tell ?_
    exact cQ_ok K C3 (fr_YL ((fr.rf.up ⟨by decide, by decide⟩).up ⟨by decide, by decide⟩))
theorem c_ck_loop (C : CL S q) (hw : sp_wf q) (N : Nat) (hN : N ≤ 20) (r : Nat) (K1 : r = N → Q (some (.int (nI 0))) S) (K2 : r ≠ N → Q (some (.int (nI (1 + r)))) S) : ∀ f k (l3 : Option Value), k + f = N → sp_ck q f k = r → wp (h_Fo_check - 1) y_Fo_check 18 [some (.ref 0), some (.int (nI N)), some (.int (nI k)), l3] [] S Q := by
  have hn := hw.n
  intro f
  induction f with
  | zero =>
    intro k l3 hk e
    obtain rfl : k = N := by omega
    rw [sp_ck_0] at e
    refine wp_iload_n d_Fo_check_18 rfl rfl ?_
    refine wp_iload_n d_Fo_check_19 rfl rfl ?_
    refine wp_icN_ge (pc' := 71) d_Fo_check_20 (by decide) (by omega) (by omega) (fun h20 => ?_) (fun h20 => absurd h20 (by omega))
    refine wp_iconst (x := nI 0) d_Fo_check_71 rfl ?_
    refine wp_reti d_Fo_check_72 rt_Fo_check ?_
    exact K1 e.symm
  | succ f ih =>
    intro k l3 hk e
    rw [sp_ck_s] at e
    have go : ∀ y l3, y = sp_sy q k → wp (h_Fo_check - 1) y_Fo_check 47 [some (.ref 0), some (.int (nI N)), some (.int (nI k)), l3] [.int y] S Q := by
      intro y l3 hy
      subst hy
      refine wp_iston3 d_Fo_check_47 rfl ?_
      refine wp_aload_n d_Fo_check_48 rfl rfl ?_
      refine wp_getR d_Fo_check_49 ow_Fo_check fl_7_10 (O_0 _) rfl ?_
      refine wp_getR d_Fo_check_52 ow_Fo_check fl_7_286 (O_1 _) rfl ?_
      refine wp_iload_n d_Fo_check_55 rfl rfl ?_
      refine wp_iaload d_Fo_check_56 (A_11 _) (by omega) (by decide) (C.wt (by omega)) ?_
      refine wp_iload_n d_Fo_check_57 rfl rfl ?_
      refine wp_ic_eq (pc' := 65) d_Fo_check_58 (by decide) (fun h58 => ?_) (fun h58 => ?_)
      · refine wp_iinc2 d_Fo_check_65 rfl (nI_add _ 1) ?_
        refine wp_goto (pc' := 18) d_Fo_check_68 (by decide) ?_
        rw [sp_if_t h58] at e
        exact ih (k + 1) _ (by omega) e
      · refine wp_iconst (x := nI 1) d_Fo_check_61 rfl ?_
        refine wp_iload_n d_Fo_check_62 rfl rfl ?_
        refine wp_iadd d_Fo_check_63 (nI_add _ _) ?_
        refine wp_reti d_Fo_check_64 rt_Fo_check ?_
        rw [sp_if_f h58] at e
        subst e
        exact K2 (by omega)
    refine wp_iload_n d_Fo_check_18 rfl rfl ?_
    refine wp_iload_n d_Fo_check_19 rfl rfl ?_
    refine wp_icN_ge (pc' := 71) d_Fo_check_20 (by decide) (by omega) (by omega) (fun h20 => absurd h20 (by omega)) (fun h20 => ?_)
    refine wp_aload_n d_Fo_check_23 rfl rfl ?_
    refine wp_getR d_Fo_check_24 ow_Fo_check fl_7_10 (O_0 _) rfl ?_
    refine wp_iload_n d_Fo_check_27 rfl rfl ?_
    refine wp_invV d_Fo_check_28 ow_Fo_check lk_7_90 (by decide) mi_La_has rfl rfl (Nat.le_of_ble_eq_true rfl) rfl (wp_isC (O_1 _)) (show h_La_has ≤ _ from by decide) (c_has C _ ?_)
    refine wp_Ki ?_
    refine wp_ifB_eq (pc' := 46) d_Fo_check_31 (by decide) (fun h31 => ?_) (fun h31 => ?_)
    · refine wp_iconst (x := -1) d_Fo_check_46 rfl ?_
      first
      | exact go _ _ (by unfold sp_sy; rw [sp_if_t hk'])
      | exact go _ _ (by unfold sp_sy; rw [sp_if_f (fun z => h31 (by rw [hn.2]; exact (i_fld (by omega)).mpr ⟨k, z, rfl⟩))])
    · have hk' : k < sp_n q := by
        have h2 := h31.2
        rw [hn.2] at h2
        obtain ⟨j, h3, h4⟩ := (i_fld (by omega)).mp ⟨h31.1, h2⟩
        have := (nI_eq (by omega) (by omega)).mp h4
        omega
      refine wp_aload_n d_Fo_check_34 rfl rfl ?_
      refine wp_getR d_Fo_check_35 ow_Fo_check fl_7_10 (O_0 _) rfl ?_
      refine wp_iload_n d_Fo_check_38 rfl rfl ?_
      refine wp_iconst (x := -1) d_Fo_check_39 rfl ?_
      refine wp_invV d_Fo_check_40 ow_Fo_check lk_7_111 (by decide) mi_La_says rfl rfl (Nat.le_of_ble_eq_true rfl) rfl (wp_isC (O_1 _)) (show h_La_says ≤ _ from by decide) (c_says C (-1) k (by omega) (fun j hj => hw.f (by omega)) ?_)
      refine wp_Ki ?_
      refine wp_goto (pc' := 47) d_Fo_check_43 (by decide) ?_
      first
      | exact go _ _ (by unfold sp_sy; rw [sp_if_t hk'])
      | exact go _ _ (by unfold sp_sy; rw [sp_if_f (fun z => h31 (by rw [hn.2]; exact (i_fld (by omega)).mpr ⟨k, z, rfl⟩))])
theorem c_check (C : CL S q) (hw : sp_wf q) (K : cQ S (op_check q) Q) : cl h_Fo_check y_Fo_check [.ref 0] S Q := by
  obtain ⟨n, hn, e⟩ := hw.2.2.2.2.2.2.1
  unfold op_check at K
  rw [e, nI_clamp (by omega)] at K
  have hle := sp_ck_le (sp_cw q) n 0
  have C2 : CL (wp_u S 1 13 (nI 0)) (sp_cw q) := C.w (j := 5) (by decide) (by decide) (by decide) (nI 0)
  have f2 : fr cY S (wp_u S 1 13 (nI 0)) := fr_YL (fr.rf.up ⟨by decide, by decide⟩)
  refine cl_in ml_Fo_check rfl rfl ?_
  refine wp_aload_n d_Fo_check_0 rfl rfl ?_
  refine wp_getR d_Fo_check_1 ow_Fo_check fl_7_10 (O_0 _) rfl ?_
  refine wp_getI d_Fo_check_4 ow_Fo_check fl_7_283 (O_1 _) rfl ((C.sc 5 (by decide) (by decide) (by decide)).trans e) ?_
  refine wp_iston1 d_Fo_check_7 rfl ?_
  refine wp_aload_n d_Fo_check_8 rfl rfl ?_
  refine wp_getR d_Fo_check_9 ow_Fo_check fl_7_10 (O_0 _) rfl ?_
  refine wp_iconst (x := nI 0) d_Fo_check_12 rfl ?_
  refine wp_put (ty := .int) d_Fo_check_13 ow_Fo_check fl_7_283 (by decide +kernel) (by decide +kernel) (O_1 _) rfl ⟨rfl, rfl⟩ ?_
  refine wp_iconst (x := nI 0) d_Fo_check_16 rfl ?_
  refine wp_iston2 d_Fo_check_17 rfl ?_
  refine c_ck_loop C2 (sp_cw_wf hw) n hn _ (fun z => ?_) (fun z => ?_) n 0 _ (Nat.zero_add _) rfl
  · rw [sp_if_t z] at K
    exact cQ_ok K C2 f2
  · rw [sp_if_f z] at K
    exact cQ_ok K C2 f2
theorem c_told (C : CL S q) (v : Int32) (K : cQ S (op_told q (S.2 90) v) Q) : cl h_Fo_told y_Fo_told [.ref 0, .int v] S Q := by
  unfold op_told at K
  by_cases h : nI 1 ≤ v ∧ v ≤ nI 5
  · rw [sp_if_t h] at K
    obtain ⟨n, hn, rfl⟩ := (i_in (v := v) (n := 5) (by decide)).mp ⟨Int32.le_trans (by decide) h.1, h.2⟩
    rw [nI_clamp (by omega)] at K
    refine cl_in ml_Fo_told rfl rfl ?_
    refine wp_iload_n d_Fo_told_0 rfl rfl ?_
    refine wp_iconst (x := nI 1) d_Fo_told_1 rfl ?_
    refine wp_iconst (x := nI 5) d_Fo_told_2 rfl ?_
    refine wp_invS d_Fo_told_3 ow_Fo_told lk_7_66 (by decide) mi_Fo_isWithin rfl rfl (Nat.le_of_ble_eq_true rfl) rfl (show h_Fo_isWithin ≤ _ from by decide) (c_isWithin _ _ _ ?_)
    refine wp_Ki ?_
    refine wp_ifB_ne (pc' := 15) d_Fo_told_6 (by decide) (fun h6 => ?_) (fun h6 => absurd h h6)
    refine wp_aload_n d_Fo_told_15 rfl rfl ?_
    refine wp_getR d_Fo_told_16 ow_Fo_told fl_7_55 (O_0 _) rfl ?_
    refine wp_iload_n d_Fo_told_19 rfl rfl ?_
    refine wp_iaload d_Fo_told_20 (A_90 _) (by omega) (by decide) (rfl) ?_
    refine wp_reti d_Fo_told_21 rt_Fo_told ?_
    exact cQ_ok K C fr.rf
  · rw [sp_if_f h] at K
    refine cl_in ml_Fo_told rfl rfl ?_
    refine wp_iload_n d_Fo_told_0 rfl rfl ?_
    refine wp_iconst (x := nI 1) d_Fo_told_1 rfl ?_
    refine wp_iconst (x := nI 5) d_Fo_told_2 rfl ?_
    refine wp_invS d_Fo_told_3 ow_Fo_told lk_7_66 (by decide) mi_Fo_isWithin rfl rfl (Nat.le_of_ble_eq_true rfl) rfl (show h_Fo_isWithin ≤ _ from by decide) (c_isWithin _ _ _ ?_)
    refine wp_Ki ?_
    refine wp_ifB_ne (pc' := 15) d_Fo_told_6 (by decide) (fun h6 => absurd h6 h) (fun h6 => ?_)
    refine wp_aload_n d_Fo_told_9 rfl rfl ?_
    refine wp_iconst (x := nI 1) d_Fo_told_10 rfl ?_
    refine wp_invV d_Fo_told_11 ow_Fo_told lk_7_70 (by decide) mi_Fo_error rfl rfl (Nat.le_of_ble_eq_true rfl) rfl (wp_isC (O_0 _)) (show h_Fo_error ≤ _ from by decide) (c_error 1 (by decide) (by decide) ?_)
    refine wp_Ki ?_
    refine wp_reti d_Fo_told_14 rt_Fo_told ?_
    exact cQ_er (e := 1) K (by decide) C fr.rf
theorem c_ta_loop (C : CL S q) (hw : sp_wf q) (K : Q (some (.int (sp_ta q (sp_n q)))) S) : ∀ m k, k + m = sp_n q → wp (h_La_toldInAll - 1) y_La_toldInAll 4 [some (.ref 1), some (.int (sp_ta q k)), some (.int (nI k))] [] S Q := by
  have hn := hw.n
  intro m
  induction m with
  | zero =>
    intro k hk
    obtain rfl : k = sp_n q := by omega
    refine wp_iload_n d_La_toldInAll_4 rfl rfl ?_
    refine wp_aload_n d_La_toldInAll_5 rfl rfl ?_
    refine wp_getI d_La_toldInAll_6 ow_La_toldInAll fl_1_46 (O_1 _) rfl (C.n.trans hn.2) ?_
    refine wp_icN_ge (pc' := 30) d_La_toldInAll_9 (by decide) (by omega) (by omega) (fun h9 => ?_) (fun h9 => absurd h9 (by omega))
    refine wp_iload_n d_La_toldInAll_30 rfl rfl ?_
    refine wp_reti d_La_toldInAll_31 rt_La_toldInAll ?_
    exact K
  | succ m ih =>
    intro k hk
    have e2 : sp_ta q (k + 1) = sp_ta q k + sp_all q k := by rw [sp_ta]
    have ih := ih (k + 1) (by omega)
    rw [e2] at ih
    refine wp_iload_n d_La_toldInAll_4 rfl rfl ?_
    refine wp_aload_n d_La_toldInAll_5 rfl rfl ?_
    refine wp_getI d_La_toldInAll_6 ow_La_toldInAll fl_1_46 (O_1 _) rfl (C.n.trans hn.2) ?_
    refine wp_icN_ge (pc' := 30) d_La_toldInAll_9 (by decide) (by omega) (by omega) (fun h9 => absurd h9 (by omega)) (fun h9 => ?_)
    refine wp_iload_n d_La_toldInAll_12 rfl rfl ?_
    refine wp_aload_n d_La_toldInAll_13 rfl rfl ?_
    refine wp_getR d_La_toldInAll_14 ow_La_toldInAll fl_1_11 (O_1 _) rfl ?_
    refine wp_iload_n d_La_toldInAll_17 rfl rfl ?_
    refine wp_aaload d_La_toldInAll_18 rfl (f_F (by omega)) (by decide) ?_
    refine wp_invV d_La_toldInAll_19 ow_La_toldInAll lk_1_119 (by decide) mi_Fi_toldByAll rfl rfl (Nat.le_of_ble_eq_true rfl) rfl (wp_isC (O_F _ (by omega))) (show h_Fi_toldByAll ≤ _ from by decide) (c_toldByAll C (by omega) ?_)
    refine wp_Ki ?_
    refine wp_iadd d_La_toldInAll_22 rfl ?_
    refine wp_iston1 d_La_toldInAll_23 rfl ?_
    refine wp_iinc2 d_La_toldInAll_24 rfl (nI_add _ 1) ?_
    refine wp_goto (pc' := 4) d_La_toldInAll_27 (by decide) ?_
    exact ih
theorem c_toldInAll (C : CL S q) (hw : sp_wf q) (K : Q (some (.int (sp_ta q (sp_n q)))) S) : cl h_La_toldInAll y_La_toldInAll [.ref 1] S Q := by
  refine cl_in ml_La_toldInAll rfl rfl ?_
  refine wp_iconst (x := nI 0) d_La_toldInAll_0 rfl ?_
  refine wp_iston1 d_La_toldInAll_1 rfl ?_
  refine wp_iconst (x := nI 0) d_La_toldInAll_2 rfl ?_
  refine wp_iston2 d_La_toldInAll_3 rfl ?_
  exact c_ta_loop C hw K (sp_n q) 0 (Nat.zero_add _)
theorem sp_nb_e {q : sp_R} (hw : sp_wf q) : ∀ k, k ≤ sp_n q → sp_many q (-1) (-1) k = sp_nb q k
  | 0, _ => by rw [sp_many, sp_nb]
  | k + 1, hk => by
    rw [sp_many, sp_nb, sp_nb_e hw k (by omega)]
    rcases sp_O_cases (sp_who_O (mu := -1) hw (show k < sp_n q by omega)) with ⟨h1, h2⟩ | ⟨o, h1, h2, h3, h4⟩
    · rw [if_pos h1, if_pos (by rw [h1]; decide)]
    · rw [if_neg (fun z => by rw [z] at h3; exact absurd h3 (by decide)), if_neg (Int32.not_lt.mpr h3)]
theorem c_count (C : CL S q) (hw : sp_wf q) (v : Int32) (K : cQ S (op_count q (S.2 79 1) v) Q) : cl h_Fo_count y_Fo_count [.ref 0, .int v] S Q := by
  unfold op_count at K
  by_cases h : sp_isW v 9
  · rw [sp_if_t h] at K
    obtain ⟨k, hk, rfl⟩ := (i_in (by decide)).mp h
    rw [nI_clamp (by omega)] at K
    unfold sp_co at K
    clear h
    rcases (show k = 0 ∨ k = 1 ∨ k = 2 ∨ k = 3 ∨ k = 4 ∨ k = 5 ∨ k = 6 ∨ k = 7 ∨ k = 8 ∨ k = 9 by omega) with rfl | rfl | rfl | rfl | rfl | rfl | rfl | rfl | rfl | rfl
    · rw [if_pos rfl] at K
      refine cl_in ml_Fo_count rfl rfl ?_
      refine wp_iload_n d_Fo_count_0 rfl rfl ?_
      refine wp_ts (pc' := 56) d_Fo_count_1 (by decide) rfl (by decide) ?_
      refine wp_aload_n d_Fo_count_56 rfl rfl ?_
      refine wp_getR d_Fo_count_57 ow_Fo_count fl_7_10 (O_0 _) rfl ?_
      refine wp_getI d_Fo_count_60 ow_Fo_count fl_7_74 (O_1 _) rfl (C.n) ?_
      refine wp_reti d_Fo_count_63 rt_Fo_count ?_
      exact cQ_ok K C fr.rf
    · rw [if_neg (by decide), if_pos rfl] at K
      refine cl_in ml_Fo_count rfl rfl ?_
      refine wp_iload_n d_Fo_count_0 rfl rfl ?_
      refine wp_ts (pc' := 64) d_Fo_count_1 (by decide) rfl (by decide) ?_
      refine wp_aload_n d_Fo_count_64 rfl rfl ?_
      refine wp_getR d_Fo_count_65 ow_Fo_count fl_7_10 (O_0 _) rfl ?_
      refine wp_getI d_Fo_count_68 ow_Fo_count fl_7_280 (O_1 _) rfl (C.sc 1 (by decide) (by decide) (by decide)) ?_
      refine wp_reti d_Fo_count_71 rt_Fo_count ?_
      exact cQ_ok K C fr.rf
    · rw [if_neg (by decide), if_neg (by decide), if_pos rfl] at K
      refine cl_in ml_Fo_count rfl rfl ?_
      refine wp_iload_n d_Fo_count_0 rfl rfl ?_
      refine wp_ts (pc' := 72) d_Fo_count_1 (by decide) rfl (by decide) ?_
      refine wp_aload_n d_Fo_count_72 rfl rfl ?_
      refine wp_getR d_Fo_count_73 ow_Fo_count fl_7_10 (O_0 _) rfl ?_
      refine wp_getI d_Fo_count_76 ow_Fo_count fl_7_289 (O_1 _) rfl (C.sc 2 (by decide) (by decide) (by decide)) ?_
      refine wp_reti d_Fo_count_79 rt_Fo_count ?_
      exact cQ_ok K C fr.rf
    · rw [if_neg (by decide), if_neg (by decide), if_neg (by decide), if_pos rfl] at K
      refine cl_in ml_Fo_count rfl rfl ?_
      refine wp_iload_n d_Fo_count_0 rfl rfl ?_
      refine wp_ts (pc' := 80) d_Fo_count_1 (by decide) rfl (by decide) ?_
      refine wp_aload_n d_Fo_count_80 rfl rfl ?_
      refine wp_getR d_Fo_count_81 ow_Fo_count fl_7_10 (O_0 _) rfl ?_
      refine wp_iconst (x := -1) d_Fo_count_84 rfl ?_
      refine wp_invV d_Fo_count_85 ow_Fo_count lk_7_134 (by decide) mi_La_fieldsOf rfl rfl (Nat.le_of_ble_eq_true rfl) rfl (wp_isC (O_1 _)) (show h_La_fieldsOf ≤ _ from by decide) (c_fieldsOf C hw (-1) (fun S2 f2 => lf_i (sp_nb_e hw _ (Nat.le_refl _)) ?_))
      refine wp_Ki ?_
      refine wp_reti d_Fo_count_88 rt_Fo_count ?_
      exact cQ_ok K (CL_st C f2) (fr_YL (fr_LS f2))
    · rw [if_neg (by decide), if_neg (by decide), if_neg (by decide), if_neg (by decide), if_pos rfl] at K
      refine cl_in ml_Fo_count rfl rfl ?_
      refine wp_iload_n d_Fo_count_0 rfl rfl ?_
      refine wp_ts (pc' := 89) d_Fo_count_1 (by decide) rfl (by decide) ?_
      refine wp_aload_n d_Fo_count_89 rfl rfl ?_
      refine wp_getR d_Fo_count_90 ow_Fo_count fl_7_10 (O_0 _) rfl ?_
      refine wp_getI d_Fo_count_93 ow_Fo_count fl_7_147 (O_1 _) rfl (C.sc 8 (by decide) (by decide) (by decide)) ?_
      refine wp_reti d_Fo_count_96 rt_Fo_count ?_
      exact cQ_ok K C fr.rf
    · rw [if_neg (by decide), if_neg (by decide), if_neg (by decide), if_neg (by decide), if_neg (by decide), if_pos rfl] at K
      refine cl_in ml_Fo_count rfl rfl ?_
      refine wp_iload_n d_Fo_count_0 rfl rfl ?_
      refine wp_ts (pc' := 97) d_Fo_count_1 (by decide) rfl (by decide) ?_
      refine wp_aload_n d_Fo_count_97 rfl rfl ?_
      refine wp_getR d_Fo_count_98 ow_Fo_count fl_7_10 (O_0 _) rfl ?_
      refine wp_invV d_Fo_count_101 ow_Fo_count lk_7_292 (by decide) mi_La_toldInAll rfl rfl (Nat.le_of_ble_eq_true rfl) rfl (wp_isC (O_1 _)) (show h_La_toldInAll ≤ _ from by decide) (c_toldInAll C hw ?_)
      refine wp_Ki ?_
      refine wp_reti d_Fo_count_104 rt_Fo_count ?_
      exact cQ_ok K C fr.rf
    · rw [if_neg (by decide), if_neg (by decide), if_neg (by decide), if_neg (by decide), if_neg (by decide), if_neg (by decide), if_pos rfl] at K
      refine cl_in ml_Fo_count rfl rfl ?_
      refine wp_iload_n d_Fo_count_0 rfl rfl ?_
      refine wp_ts (pc' := 105) d_Fo_count_1 (by decide) rfl (by decide) ?_
      refine wp_aload_n d_Fo_count_105 rfl rfl ?_
      refine wp_getR d_Fo_count_106 ow_Fo_count fl_7_10 (O_0 _) rfl ?_
      refine wp_getI d_Fo_count_109 ow_Fo_count fl_7_162 (O_1 _) rfl (C.sc 4 (by decide) (by decide) (by decide)) ?_
      refine wp_reti d_Fo_count_112 rt_Fo_count ?_
      exact cQ_ok K C fr.rf
    · rw [if_neg (by decide), if_neg (by decide), if_neg (by decide), if_neg (by decide), if_neg (by decide), if_neg (by decide), if_neg (by decide), if_pos rfl] at K
      refine cl_in ml_Fo_count rfl rfl ?_
      refine wp_iload_n d_Fo_count_0 rfl rfl ?_
      refine wp_ts (pc' := 113) d_Fo_count_1 (by decide) rfl (by decide) ?_
      refine wp_aload_n d_Fo_count_113 rfl rfl ?_
      refine wp_getR d_Fo_count_114 ow_Fo_count fl_7_10 (O_0 _) rfl ?_
      refine wp_getI d_Fo_count_117 ow_Fo_count fl_7_283 (O_1 _) rfl (C.sc 5 (by decide) (by decide) (by decide)) ?_
      refine wp_reti d_Fo_count_120 rt_Fo_count ?_
      exact cQ_ok K C fr.rf
    · rw [if_neg (by decide), if_neg (by decide), if_neg (by decide), if_neg (by decide), if_neg (by decide), if_neg (by decide), if_neg (by decide), if_neg (by decide), if_pos rfl] at K
      refine cl_in ml_Fo_count rfl rfl ?_
      refine wp_iload_n d_Fo_count_0 rfl rfl ?_
      refine wp_ts (pc' := 121) d_Fo_count_1 (by decide) rfl (by decide) ?_
      refine wp_aload_n d_Fo_count_121 rfl rfl ?_
      refine wp_getR d_Fo_count_122 ow_Fo_count fl_7_44 (O_0 _) rfl ?_
      refine wp_getI d_Fo_count_125 ow_Fo_count fl_7_244 (O_79 _) rfl (rfl) ?_
      refine wp_reti d_Fo_count_128 rt_Fo_count ?_
      exact cQ_ok K C fr.rf
    · rw [if_neg (by decide), if_neg (by decide), if_neg (by decide), if_neg (by decide), if_neg (by decide), if_neg (by decide), if_neg (by decide), if_neg (by decide), if_neg (by decide)] at K
      refine cl_in ml_Fo_count rfl rfl ?_
      refine wp_iload_n d_Fo_count_0 rfl rfl ?_
      refine wp_ts (pc' := 129) d_Fo_count_1 (by decide) rfl (by decide) ?_
      refine wp_aload_n d_Fo_count_129 rfl rfl ?_
      refine wp_getR d_Fo_count_130 ow_Fo_count fl_7_10 (O_0 _) rfl ?_
      refine wp_getI d_Fo_count_133 ow_Fo_count fl_7_237 (O_1 _) rfl (C.sc 3 (by decide) (by decide) (by decide)) ?_
      refine wp_reti d_Fo_count_136 rt_Fo_count ?_
      exact cQ_ok K C fr.rf
  · rw [sp_if_f h] at K
    have hd : v.toInt < 0 ∨ 9 < v.toInt := by
      refine Classical.byContradiction (fun z => h ⟨Int32.le_iff_toInt_le.mpr ?_, Int32.le_iff_toInt_le.mpr ?_⟩)
      · have : (0 : Int32).toInt = 0 := by decide
        omega
      · have : (nI 9).toInt = 9 := by decide
        omega
    refine cl_in ml_Fo_count rfl rfl ?_
    refine wp_iload_n d_Fo_count_0 rfl rfl ?_
    refine wp_td (pc' := 137) d_Fo_count_1 ((hd)) (by decide) ?_
    refine wp_aload_n d_Fo_count_137 rfl rfl ?_
    refine wp_iconst (x := nI 1) d_Fo_count_138 rfl ?_
    refine wp_invV d_Fo_count_139 ow_Fo_count lk_7_70 (by decide) mi_Fo_error rfl rfl (Nat.le_of_ble_eq_true rfl) rfl (wp_isC (O_0 _)) (show h_Fo_error ≤ _ from by decide) (c_error 1 (by decide) (by decide) ?_)
    refine wp_Ki ?_
    refine wp_reti d_Fo_count_142 rt_Fo_count ?_
    exact cQ_er (e := 1) K (by decide) C fr.rf
end CG
