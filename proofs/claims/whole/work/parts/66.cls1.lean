/-! the class: its small methods, what mowers say, whose fields are -/
/-- stacks of laws -/
def cS (k _j : Nat) : Prop := k = 6 ∨ k = 9
theorem i_a0 (x : Int32) : x + nI 0 = x := Int32.add_zero x
section CA
variable {S : wp_S} {q : sp_R} {mu : Int32} {Q : Option Value → wp_S → Prop}
theorem CL_st {S' : wp_S} (C : CL S q) (f : fr cS S S') : CL S' q := C.fr (fun k j h => f.2 k j (fun z => h (by unfold cS at z; unfold cW; omega)))
theorem cLw_st {S' : wp_S} {u : Nat} (C : cLw S q u) (hu : u < 2) (f : fr cS S S') : cLw S' q u := ⟨C.1, C.2.1, (f.2 _ _ (by unfold cS; omega)).trans C.2.2.1, fun k x h => (f.2 _ _ (by unfold cS; omega)).trans (C.2.2.2 k x h)⟩
theorem c_isWithin (v a b : Int32) (k : Q (some (.int (bi (a ≤ v ∧ v ≤ b)))) S) : cl h_Fo_isWithin y_Fo_isWithin [.int v, .int a, .int b] S Q := by
  refine cl_in ml_Fo_isWithin rfl rfl ?_
  refine wp_iload_n d_Fo_isWithin_0 rfl rfl ?_
  refine wp_iload_n d_Fo_isWithin_1 rfl rfl ?_
  refine wp_ic_lt (pc' := 14) d_Fo_isWithin_2 (by decide) (fun h2 => ?_) (fun h2 => ?_)
  · refine wp_iconst (x := nI 0) d_Fo_isWithin_14 rfl ?_
    refine wp_retz d_Fo_isWithin_15 rt_Fo_isWithin (by first | exact Or.inl rfl | exact Or.inr rfl) ?_
    exact lf_i (x := 0) (bi_f (fun q => i_nlt h2 q.1)).symm k
  · refine wp_iload_n d_Fo_isWithin_5 rfl rfl ?_
    refine wp_iload_n d_Fo_isWithin_6 rfl rfl ?_
    refine wp_ic_gt (pc' := 14) d_Fo_isWithin_7 (by decide) (fun h7 => ?_) (fun h7 => ?_)
    · refine wp_iconst (x := nI 0) d_Fo_isWithin_14 rfl ?_
      refine wp_retz d_Fo_isWithin_15 rt_Fo_isWithin (by first | exact Or.inl rfl | exact Or.inr rfl) ?_
      exact lf_i (x := 0) (bi_f (fun q => i_nlt h7 q.2)).symm k
    · refine wp_iconst (x := nI 1) d_Fo_isWithin_10 rfl ?_
      refine wp_goto (pc' := 15) d_Fo_isWithin_11 (by decide) ?_
      refine wp_retz d_Fo_isWithin_15 rt_Fo_isWithin (by first | exact Or.inl rfl | exact Or.inr rfl) ?_
      exact lf_i (x := 1) (bi_t ⟨i_nle h2, i_nle h7⟩).symm k
theorem c_isOwner (v : Int32) (k : Q (some (.int (bi (0 ≤ v ∧ v ≤ nI 3)))) S) : cl h_Fo_isOwner y_Fo_isOwner [.int v] S Q := by
  refine cl_in ml_Fo_isOwner rfl rfl ?_
  refine wp_iload_n d_Fo_isOwner_0 rfl rfl ?_
  refine wp_iconst (x := nI 0) d_Fo_isOwner_1 rfl ?_
  refine wp_iconst (x := nI 3) d_Fo_isOwner_2 rfl ?_
  refine wp_invS d_Fo_isOwner_3 ow_Fo_isOwner lk_7_66 (by decide) mi_Fo_isWithin rfl rfl (Nat.le_of_ble_eq_true rfl) rfl (show h_Fo_isWithin ≤ _ from by decide) (c_isWithin _ _ _ ?_)
  refine wp_Ki ?_
  refine wp_ireturn d_Fo_isOwner_6 rt_Fo_isOwner ⟨Or.inr (Or.inl rfl), bi_nar⟩ ?_
  exact k
theorem c_isSheet (v : Int32) (k : Q (some (.int (bi (0 ≤ v ∧ v ≤ nI 3)))) S) : cl h_Fo_isSheet y_Fo_isSheet [.int v] S Q := by
  refine cl_in ml_Fo_isSheet rfl rfl ?_
  refine wp_iload_n d_Fo_isSheet_0 rfl rfl ?_
  refine wp_iconst (x := nI 0) d_Fo_isSheet_1 rfl ?_
  refine wp_iconst (x := nI 3) d_Fo_isSheet_2 rfl ?_
  refine wp_invS d_Fo_isSheet_3 ow_Fo_isSheet lk_7_66 (by decide) mi_Fo_isWithin rfl rfl (Nat.le_of_ble_eq_true rfl) rfl (show h_Fo_isWithin ≤ _ from by decide) (c_isWithin _ _ _ ?_)
  refine wp_Ki ?_
  refine wp_ireturn d_Fo_isSheet_6 rt_Fo_isSheet ⟨Or.inr (Or.inl rfl), bi_nar⟩ ?_
  exact k
theorem c_isKm (v : Int32) (k : Q (some (.int (bi (0 ≤ v ∧ v ≤ nI 69)))) S) : cl h_Fo_isKm y_Fo_isKm [.int v] S Q := by
  refine cl_in ml_Fo_isKm rfl rfl ?_
  refine wp_iload_n d_Fo_isKm_0 rfl rfl ?_
  refine wp_iconst (x := nI 0) d_Fo_isKm_1 rfl ?_
  refine wp_bipush (x := nI 69) d_Fo_isKm_2 (by decide) ?_
  refine wp_invS d_Fo_isKm_4 ow_Fo_isKm lk_7_66 (by decide) mi_Fo_isWithin rfl rfl (Nat.le_of_ble_eq_true rfl) rfl (show h_Fo_isWithin ≤ _ from by decide) (c_isWithin _ _ _ ?_)
  refine wp_Ki ?_
  refine wp_ireturn d_Fo_isKm_7 rt_Fo_isKm ⟨Or.inr (Or.inl rfl), bi_nar⟩ ?_
  exact k
theorem c_error (e : Nat) (h1 : 1 ≤ e) (h2 : e ≤ 5) (k : Q (some (.int (-1000000000 - nI e))) (wp_u S 90 e (S.2 90 e + nI 1))) : cl h_Fo_error y_Fo_error [.ref 0, .int (nI e)] S Q := by
  refine cl_in ml_Fo_error rfl rfl ?_
  refine wp_iload_n d_Fo_error_0 rfl rfl ?_
  refine wp_iconst (x := nI 1) d_Fo_error_1 rfl ?_
  refine wp_iconst (x := nI 5) d_Fo_error_2 rfl ?_
  refine wp_invS d_Fo_error_3 ow_Fo_error lk_7_66 (by decide) mi_Fo_isWithin rfl rfl (Nat.le_of_ble_eq_true rfl) rfl (show h_Fo_isWithin ≤ _ from by decide) (c_isWithin _ _ _ ?_)
  refine wp_Ki ?_
  refine wp_ifB_eq (pc' := 19) d_Fo_error_6 (by decide) (fun h6 => absurd ⟨(nI_leI (by decide) (by omega)).mpr h1, (nI_leI (by omega) (by decide)).mpr h2⟩ h6) (fun h6 => ?_)
  refine wp_aload_n d_Fo_error_9 rfl rfl ?_
  refine wp_getR d_Fo_error_10 ow_Fo_error fl_7_55 (O_0 _) rfl ?_
  refine wp_iload_n d_Fo_error_13 rfl rfl ?_
  refine wp_dup2 d_Fo_error_14 ⟨rfl, rfl⟩ ?_
  refine wp_iaload d_Fo_error_15 (A_90 _) (by omega) (by decide) (rfl) ?_
  refine wp_iconst (x := nI 1) d_Fo_error_16 rfl ?_
  refine wp_iadd d_Fo_error_17 rfl ?_
  refine wp_iastore d_Fo_error_18 (A_90 _) (by omega) (by decide) ?_
  refine wp_ldc_w (v := -1000000000) d_Fo_error_19 ow_Fo_error (by decide +kernel) ?_
  refine wp_iload_n d_Fo_error_22 rfl rfl ?_
  refine wp_isub d_Fo_error_23 rfl ?_
  refine wp_reti d_Fo_error_24 rt_Fo_error ?_
  exact k
theorem c_has (C : CL S q) (v : Int32) (k : Q (some (.int (bi (0 ≤ v ∧ v ≤ q 0 - nI 1)))) S) : cl h_La_has y_La_has [.ref 1, .int v] S Q := by
  refine cl_in ml_La_has rfl rfl ?_
  refine wp_iload_n d_La_has_0 rfl rfl ?_
  refine wp_iconst (x := nI 0) d_La_has_1 rfl ?_
  refine wp_aload_n d_La_has_2 rfl rfl ?_
  refine wp_getI d_La_has_3 ow_La_has fl_1_46 (O_1 _) rfl (C.n) ?_
  refine wp_iconst (x := nI 1) d_La_has_6 rfl ?_
  refine wp_isub d_La_has_7 rfl ?_
  refine wp_invS d_La_has_8 ow_La_has lk_1_97 (by decide) mi_Fo_isWithin rfl rfl (Nat.le_of_ble_eq_true rfl) rfl (show h_Fo_isWithin ≤ _ from by decide) (c_isWithin _ _ _ ?_)
  refine wp_Ki ?_
  refine wp_ireturn d_La_has_11 rt_La_has ⟨Or.inr (Or.inl rfl), bi_nar⟩ ?_
  exact k
theorem c_gb {w : Nat} (hA : ∀ S, wp_A S w 4) {i : Nat} (hi : i < 10) (wv : Nat → Int32) (h1 : ∀ o, o < 4 → S.2 w o = wv o) (tv : Nat → Int32) (h2 : ∀ o, o < 4 → S.2 (14 + 2 * i) o = tv o) (K : Q (some (.int (sp_ov (sp_gr wv tv 4)))) S) : ∀ m k, k + m = 4 → wp (h_Fi_greatestBy - 1) y_Fi_greatestBy 4 [some (.ref (13 + 2 * i)), some (.ref w), some (.int (sp_ov (sp_gr wv tv k))), some (.int (nI k))] [] S Q := by
  intro m
  induction m with
  | zero =>
    intro k hk
    obtain rfl : k = 4 := by omega
    refine wp_iload_n d_Fi_greatestBy_4 rfl rfl ?_
    refine wp_iconst (x := nI 4) d_Fi_greatestBy_5 rfl ?_
    refine wp_icN_ge (pc' := 39) d_Fi_greatestBy_6 (by decide) (by omega) (by omega) (fun _ => ?_) (fun q => absurd q (by decide))
    refine wp_iload_n d_Fi_greatestBy_39 rfl rfl ?_
    refine wp_reti d_Fi_greatestBy_40 rt_Fi_greatestBy ?_
    exact K
  | succ m ih =>
    intro k hk
    have e1 := h1 k (by omega)
    have e2 := h2 k (by omega)
    have ih := ih (k + 1) (by omega)
    cases hb : sp_gr wv tv k with
    | none =>
      have es : sp_gr wv tv (k + 1) = if 0 < tv k then some k else none := by simp only [sp_gr, hb]
      show wp (h_Fi_greatestBy - 1) y_Fi_greatestBy 4 [some (.ref (13 + 2 * i)), some (.ref w), some (.int (-1)), some (.int (nI k))] [] S Q
      refine wp_iload_n d_Fi_greatestBy_4 rfl rfl ?_
      refine wp_iconst (x := nI 4) d_Fi_greatestBy_5 rfl ?_
      refine wp_icN_ge (pc' := 39) d_Fi_greatestBy_6 (by decide) (by omega) (by omega) (fun h6 => absurd h6 (by omega)) (fun h6 => ?_)
      refine wp_aload_n d_Fi_greatestBy_9 rfl rfl ?_
      refine wp_getR d_Fi_greatestBy_10 ow_Fi_greatestBy fl_0_9 (O_F _ (by omega)) rfl ?_
      refine wp_iload_n d_Fi_greatestBy_13 rfl rfl ?_
      refine wp_iaload d_Fi_greatestBy_14 (A_G _ (by omega)) (by omega) (by decide) (e2) ?_
      refine wp_if_le (pc' := 33) d_Fi_greatestBy_15 (by decide) (fun h15 => ?_) (fun h15 => ?_)
      · refine wp_iinc3 d_Fi_greatestBy_33 rfl (nI_add _ 1) ?_
        refine wp_goto (pc' := 4) d_Fi_greatestBy_36 (by decide) ?_
        first
        | (rw [if_neg (Int32.not_lt.mpr h15)] at es
           rw [es] at ih
           exact ih)
        | (rw [if_pos (Int32.not_le.mp h15)] at es
           rw [es] at ih
           exact ih)
      · refine wp_iload_n d_Fi_greatestBy_18 rfl rfl ?_
        refine wp_if_lt (pc' := 31) d_Fi_greatestBy_19 (by decide) (fun h19 => ?_) (fun h19 => absurd (show (-1 : Int32) < 0 from by decide) h19)
        refine wp_iload_n d_Fi_greatestBy_31 rfl rfl ?_
        refine wp_iston2 d_Fi_greatestBy_32 rfl ?_
        refine wp_iinc3 d_Fi_greatestBy_33 rfl (nI_add _ 1) ?_
        refine wp_goto (pc' := 4) d_Fi_greatestBy_36 (by decide) ?_
        first
        | (rw [if_neg (Int32.not_lt.mpr h15)] at es
           rw [es] at ih
           exact ih)
        | (rw [if_pos (Int32.not_le.mp h15)] at es
           rw [es] at ih
           exact ih)
    | some b =>
      have es : sp_gr wv tv (k + 1) = if 0 < tv k ∧ wv b < wv k then some k else some b := by simp only [sp_gr, hb]
      have hbk := sp_gr_lt wv tv k b hb
      have e3 := h1 b (by omega)
      show wp (h_Fi_greatestBy - 1) y_Fi_greatestBy 4 [some (.ref (13 + 2 * i)), some (.ref w), some (.int (nI b)), some (.int (nI k))] [] S Q
      refine wp_iload_n d_Fi_greatestBy_4 rfl rfl ?_
      refine wp_iconst (x := nI 4) d_Fi_greatestBy_5 rfl ?_
      refine wp_icN_ge (pc' := 39) d_Fi_greatestBy_6 (by decide) (by omega) (by omega) (fun h6 => absurd h6 (by omega)) (fun h6 => ?_)
      refine wp_aload_n d_Fi_greatestBy_9 rfl rfl ?_
      refine wp_getR d_Fi_greatestBy_10 ow_Fi_greatestBy fl_0_9 (O_F _ (by omega)) rfl ?_
      refine wp_iload_n d_Fi_greatestBy_13 rfl rfl ?_
      refine wp_iaload d_Fi_greatestBy_14 (A_G _ (by omega)) (by omega) (by decide) (e2) ?_
      refine wp_if_le (pc' := 33) d_Fi_greatestBy_15 (by decide) (fun h15 => ?_) (fun h15 => ?_)
      · refine wp_iinc3 d_Fi_greatestBy_33 rfl (nI_add _ 1) ?_
        refine wp_goto (pc' := 4) d_Fi_greatestBy_36 (by decide) ?_
        first
        | (rw [if_neg (fun z => absurd z.1 (Int32.not_lt.mpr h15))] at es
           rw [es] at ih
           exact ih)
        | (rw [if_neg (fun z => absurd z.2 (Int32.not_lt.mpr h28))] at es
           rw [es] at ih
           exact ih)
        | (rw [if_pos ⟨Int32.not_le.mp h15, Int32.not_le.mp h28⟩] at es
           rw [es] at ih
           exact ih)
      · refine wp_iload_n d_Fi_greatestBy_18 rfl rfl ?_
        refine wp_ifN_lt (pc' := 31) d_Fi_greatestBy_19 (by decide) (by omega) ?_
        refine wp_aload_n d_Fi_greatestBy_22 rfl rfl ?_
        refine wp_iload_n d_Fi_greatestBy_23 rfl rfl ?_
        refine wp_iaload d_Fi_greatestBy_24 (hA _) (by omega) (by decide) (e1) ?_
        refine wp_aload_n d_Fi_greatestBy_25 rfl rfl ?_
        refine wp_iload_n d_Fi_greatestBy_26 rfl rfl ?_
        refine wp_iaload d_Fi_greatestBy_27 (hA _) (by omega) (by decide) (e3) ?_
        refine wp_ic_le (pc' := 33) d_Fi_greatestBy_28 (by decide) (fun h28 => ?_) (fun h28 => ?_)
        · refine wp_iinc3 d_Fi_greatestBy_33 rfl (nI_add _ 1) ?_
          refine wp_goto (pc' := 4) d_Fi_greatestBy_36 (by decide) ?_
          first
          | (rw [if_neg (fun z => absurd z.1 (Int32.not_lt.mpr h15))] at es
             rw [es] at ih
             exact ih)
          | (rw [if_neg (fun z => absurd z.2 (Int32.not_lt.mpr h28))] at es
             rw [es] at ih
             exact ih)
          | (rw [if_pos ⟨Int32.not_le.mp h15, Int32.not_le.mp h28⟩] at es
             rw [es] at ih
             exact ih)
        · refine wp_iload_n d_Fi_greatestBy_31 rfl rfl ?_
          refine wp_iston2 d_Fi_greatestBy_32 rfl ?_
          refine wp_iinc3 d_Fi_greatestBy_33 rfl (nI_add _ 1) ?_
          refine wp_goto (pc' := 4) d_Fi_greatestBy_36 (by decide) ?_
          first
          | (rw [if_neg (fun z => absurd z.1 (Int32.not_lt.mpr h15))] at es
             rw [es] at ih
             exact ih)
          | (rw [if_neg (fun z => absurd z.2 (Int32.not_lt.mpr h28))] at es
             rw [es] at ih
             exact ih)
          | (rw [if_pos ⟨Int32.not_le.mp h15, Int32.not_le.mp h28⟩] at es
             rw [es] at ih
             exact ih)
theorem c_greatestBy {w : Nat} (hA : ∀ S, wp_A S w 4) {i : Nat} (hi : i < 10) (wv : Nat → Int32) (h1 : ∀ o, o < 4 → S.2 w o = wv o) (tv : Nat → Int32) (h2 : ∀ o, o < 4 → S.2 (14 + 2 * i) o = tv o) (K : Q (some (.int (sp_ov (sp_gr wv tv 4)))) S) : cl h_Fi_greatestBy y_Fi_greatestBy [.ref (13 + 2 * i), .ref w] S Q := by
  refine cl_in ml_Fi_greatestBy rfl rfl ?_
  refine wp_iconst (x := -1) d_Fi_greatestBy_0 rfl ?_
  refine wp_iston2 d_Fi_greatestBy_1 rfl ?_
  refine wp_iconst (x := nI 0) d_Fi_greatestBy_2 rfl ?_
  refine wp_iston3 d_Fi_greatestBy_3 rfl ?_
  exact c_gb hA hi wv h1 tv h2 K 4 0 rfl
theorem c_toldByAll (C : CL S q) {i : Nat} (hi : i < sp_n q) (K : Q (some (.int (sp_all q i))) S) : cl h_Fi_toldByAll y_Fi_toldByAll [.ref (13 + 2 * i)] S Q := by
  have h10 := C.le
  refine cl_in ml_Fi_toldByAll rfl rfl ?_
  refine wp_iconst (x := nI 0) d_Fi_toldByAll_0 rfl ?_
  refine wp_iston1 d_Fi_toldByAll_1 rfl ?_
  refine wp_iconst (x := nI 0) d_Fi_toldByAll_2 rfl ?_
  refine wp_iston2 d_Fi_toldByAll_3 rfl ?_
  refine wp_iload_n d_Fi_toldByAll_4 rfl rfl ?_
  refine wp_iconst (x := nI 4) d_Fi_toldByAll_5 rfl ?_
  refine wp_icN_ge (pc' := 24) d_Fi_toldByAll_6 (by decide) (by omega) (by omega) (fun q => absurd q (by decide)) (fun _ => ?_)
  refine wp_iload_n d_Fi_toldByAll_9 rfl rfl ?_
  refine wp_aload_n d_Fi_toldByAll_10 rfl rfl ?_
  refine wp_getR d_Fi_toldByAll_11 ow_Fi_toldByAll fl_0_9 (O_F _ (by omega)) rfl ?_
  refine wp_iload_n d_Fi_toldByAll_14 rfl rfl ?_
  refine wp_iaload d_Fi_toldByAll_15 (A_G _ (by omega)) (by omega) (by decide) (C.t hi (by decide)) ?_
  refine wp_iadd d_Fi_toldByAll_16 rfl ?_
  refine wp_iston1 d_Fi_toldByAll_17 rfl ?_
  refine wp_iinc2 (v := nI 1) d_Fi_toldByAll_18 rfl rfl ?_
  refine wp_goto (pc' := 4) d_Fi_toldByAll_21 (by decide) ?_
  refine wp_iload_n d_Fi_toldByAll_4 rfl rfl ?_
  refine wp_iconst (x := nI 4) d_Fi_toldByAll_5 rfl ?_
  refine wp_icN_ge (pc' := 24) d_Fi_toldByAll_6 (by decide) (by omega) (by omega) (fun q => absurd q (by decide)) (fun _ => ?_)
  refine wp_iload_n d_Fi_toldByAll_9 rfl rfl ?_
  refine wp_aload_n d_Fi_toldByAll_10 rfl rfl ?_
  refine wp_getR d_Fi_toldByAll_11 ow_Fi_toldByAll fl_0_9 (O_F _ (by omega)) rfl ?_
  refine wp_iload_n d_Fi_toldByAll_14 rfl rfl ?_
  refine wp_iaload d_Fi_toldByAll_15 (A_G _ (by omega)) (by omega) (by decide) (C.t hi (by decide)) ?_
  refine wp_iadd d_Fi_toldByAll_16 rfl ?_
  refine wp_iston1 d_Fi_toldByAll_17 rfl ?_
  refine wp_iinc2 (v := nI 2) d_Fi_toldByAll_18 rfl rfl ?_
  refine wp_goto (pc' := 4) d_Fi_toldByAll_21 (by decide) ?_
  refine wp_iload_n d_Fi_toldByAll_4 rfl rfl ?_
  refine wp_iconst (x := nI 4) d_Fi_toldByAll_5 rfl ?_
  refine wp_icN_ge (pc' := 24) d_Fi_toldByAll_6 (by decide) (by omega) (by omega) (fun q => absurd q (by decide)) (fun _ => ?_)
  refine wp_iload_n d_Fi_toldByAll_9 rfl rfl ?_
  refine wp_aload_n d_Fi_toldByAll_10 rfl rfl ?_
  refine wp_getR d_Fi_toldByAll_11 ow_Fi_toldByAll fl_0_9 (O_F _ (by omega)) rfl ?_
  refine wp_iload_n d_Fi_toldByAll_14 rfl rfl ?_
  refine wp_iaload d_Fi_toldByAll_15 (A_G _ (by omega)) (by omega) (by decide) (C.t hi (by decide)) ?_
  refine wp_iadd d_Fi_toldByAll_16 rfl ?_
  refine wp_iston1 d_Fi_toldByAll_17 rfl ?_
  refine wp_iinc2 (v := nI 3) d_Fi_toldByAll_18 rfl rfl ?_
  refine wp_goto (pc' := 4) d_Fi_toldByAll_21 (by decide) ?_
  refine wp_iload_n d_Fi_toldByAll_4 rfl rfl ?_
  refine wp_iconst (x := nI 4) d_Fi_toldByAll_5 rfl ?_
  refine wp_icN_ge (pc' := 24) d_Fi_toldByAll_6 (by decide) (by omega) (by omega) (fun q => absurd q (by decide)) (fun _ => ?_)
  refine wp_iload_n d_Fi_toldByAll_9 rfl rfl ?_
  refine wp_aload_n d_Fi_toldByAll_10 rfl rfl ?_
  refine wp_getR d_Fi_toldByAll_11 ow_Fi_toldByAll fl_0_9 (O_F _ (by omega)) rfl ?_
  refine wp_iload_n d_Fi_toldByAll_14 rfl rfl ?_
  refine wp_iaload d_Fi_toldByAll_15 (A_G _ (by omega)) (by omega) (by decide) (C.t hi (by decide)) ?_
  refine wp_iadd d_Fi_toldByAll_16 rfl ?_
  refine wp_iston1 d_Fi_toldByAll_17 rfl ?_
  refine wp_iinc2 (v := nI 4) d_Fi_toldByAll_18 rfl rfl ?_
  refine wp_goto (pc' := 4) d_Fi_toldByAll_21 (by decide) ?_
  refine wp_iload_n d_Fi_toldByAll_4 rfl rfl ?_
  refine wp_iconst (x := nI 4) d_Fi_toldByAll_5 rfl ?_
  refine wp_icN_ge (pc' := 24) d_Fi_toldByAll_6 (by decide) (by omega) (by omega) (fun _ => ?_) (fun q => absurd q (by decide))
  refine wp_iload_n d_Fi_toldByAll_24 rfl rfl ?_
  refine wp_reti d_Fi_toldByAll_25 rt_Fi_toldByAll ?_
  exact K
theorem c_saysItself (C : CL S q) {i : Nat} (hi : i < sp_n q) (hw : sp_fw q i) (K : Q (some (.int (sp_self q i))) S) : cl h_Fi_saysItself y_Fi_saysItself [.ref (13 + 2 * i), .ref 3] S Q := by
  have h10 := C.le
  have hi10 : i < 10 := by omega
  obtain ⟨g1, g2⟩ := hw.kd
  obtain ⟨g3, g4⟩ := hw.m
  have hk : S.2 (13 + 2 * i) 2 = nI (sp_kd q i) := (C.f hi (w := 0) (by decide)).trans g2
  have hm : S.2 (13 + 2 * i) 3 = nI (sp_m q i) := (C.f hi (w := 1) (by decide)).trans g4
  have hn : S.2 (13 + 2 * i) 0 = nI i := C.2.1 i hi10
  have hf : S.2 (13 + 2 * i) 6 = sp_f q i 4 := C.f hi (w := 4) (by decide)
  have hl : S.2 (13 + 2 * i) 7 = sp_f q i 5 := C.f hi (w := 5) (by decide)
  have hfe : ∀ o, o < 4 → S.2 3 o = sp_fear q o := fun o ho => C.q9 ho
  have hto : ∀ o, o < 4 → S.2 (14 + 2 * i) o = sp_told q i o := fun o ho => C.t hi ho
  unfold sp_self at K
  generalize sp_m q i = mm at *
  generalize sp_kd q i = kd at *
  clear g2 g4
  rcases (show kd = 0 ∨ kd = 1 ∨ kd = 2 ∨ kd = 3 ∨ kd = 4 ∨ kd = 5 ∨ kd = 6 by omega) with rfl | rfl | rfl | rfl | rfl | rfl | rfl
  · refine cl_in ml_Fi_saysItself rfl rfl ?_
    refine wp_aload_n d_Fi_saysItself_0 rfl rfl ?_
    refine wp_getI d_Fi_saysItself_1 ow_Fi_saysItself fl_0_15 (O_F _ (by omega)) rfl (hk) ?_
    refine wp_td (pc' := 110) d_Fi_saysItself_4 (by decide) (by decide) ?_
    refine wp_aload_n d_Fi_saysItself_110 rfl rfl ?_
    refine wp_getI d_Fi_saysItself_111 ow_Fi_saysItself fl_0_31 (O_F _ (by omega)) rfl (hl) ?_
    refine wp_reti d_Fi_saysItself_114 rt_Fi_saysItself ?_
    exact K
  · refine cl_in ml_Fi_saysItself rfl rfl ?_
    refine wp_aload_n d_Fi_saysItself_0 rfl rfl ?_
    refine wp_getI d_Fi_saysItself_1 ow_Fi_saysItself fl_0_15 (O_F _ (by omega)) rfl (hk) ?_
    refine wp_ts (pc' := 44) d_Fi_saysItself_4 (by decide) rfl (by decide) ?_
    refine wp_aload_n d_Fi_saysItself_44 rfl rfl ?_
    refine wp_getI d_Fi_saysItself_45 ow_Fi_saysItself fl_0_19 (O_F _ (by omega)) rfl (hm) ?_
    refine wp_iconst (x := nI 4) d_Fi_saysItself_48 rfl ?_
    refine wp_iremN d_Fi_saysItself_49 (by omega) (by omega) (by omega) ?_
    refine wp_reti d_Fi_saysItself_50 rt_Fi_saysItself ?_
    exact K
  · refine cl_in ml_Fi_saysItself rfl rfl ?_
    refine wp_aload_n d_Fi_saysItself_0 rfl rfl ?_
    refine wp_getI d_Fi_saysItself_1 ow_Fi_saysItself fl_0_15 (O_F _ (by omega)) rfl (hk) ?_
    refine wp_ts (pc' := 73) d_Fi_saysItself_4 (by decide) rfl (by decide) ?_
    refine wp_aload_n d_Fi_saysItself_73 rfl rfl ?_
    refine wp_aload_n d_Fi_saysItself_74 rfl rfl ?_
    refine wp_invV d_Fi_saysItself_75 ow_Fi_saysItself lk_0_60 (by decide) mi_Fi_greatestBy rfl rfl (Nat.le_of_ble_eq_true rfl) rfl (wp_isC (O_F _ (by omega))) (show h_Fi_greatestBy ≤ _ from by decide) (c_greatestBy A_3 hi10 (sp_fear q) hfe (sp_told q i) hto ?_)
    refine wp_Ki ?_
    refine wp_reti d_Fi_saysItself_78 rt_Fi_saysItself ?_
    exact K
  · refine cl_in ml_Fi_saysItself rfl rfl ?_
    refine wp_aload_n d_Fi_saysItself_0 rfl rfl ?_
    refine wp_getI d_Fi_saysItself_1 ow_Fi_saysItself fl_0_15 (O_F _ (by omega)) rfl (hk) ?_
    refine wp_ts (pc' := 105) d_Fi_saysItself_4 (by decide) rfl (by decide) ?_
    refine wp_aload_n d_Fi_saysItself_105 rfl rfl ?_
    refine wp_getI d_Fi_saysItself_106 ow_Fi_saysItself fl_0_28 (O_F _ (by omega)) rfl (hf) ?_
    refine wp_reti d_Fi_saysItself_109 rt_Fi_saysItself ?_
    exact K
  · refine cl_in ml_Fi_saysItself rfl rfl ?_
    refine wp_aload_n d_Fi_saysItself_0 rfl rfl ?_
    refine wp_getI d_Fi_saysItself_1 ow_Fi_saysItself fl_0_15 (O_F _ (by omega)) rfl (hk) ?_
    refine wp_ts (pc' := 51) d_Fi_saysItself_4 (by decide) rfl (by decide) ?_
    refine wp_aload_n d_Fi_saysItself_51 rfl rfl ?_
    refine wp_getI d_Fi_saysItself_52 ow_Fi_saysItself fl_0_34 (O_F _ (by omega)) rfl (hn) ?_
    refine wp_aload_n d_Fi_saysItself_55 rfl rfl ?_
    refine wp_getI d_Fi_saysItself_56 ow_Fi_saysItself fl_0_19 (O_F _ (by omega)) rfl (hm) ?_
    refine wp_icN_ge (pc' := 71) d_Fi_saysItself_59 (by decide) (by omega) (by omega) (fun h59 => ?_) (fun h59 => ?_)
    · refine wp_iconst (x := -1) d_Fi_saysItself_71 rfl ?_
      refine wp_reti d_Fi_saysItself_72 rt_Fi_saysItself ?_
      exact lf_i (by rw [if_neg (by decide), if_pos rfl, if_neg (by omega)]) K
    · refine wp_aload_n d_Fi_saysItself_62 rfl rfl ?_
      refine wp_getI d_Fi_saysItself_63 ow_Fi_saysItself fl_0_19 (O_F _ (by omega)) rfl (hm) ?_
      refine wp_iconst (x := nI 4) d_Fi_saysItself_66 rfl ?_
      refine wp_iremN d_Fi_saysItself_67 (by omega) (by omega) (by omega) ?_
      refine wp_goto (pc' := 72) d_Fi_saysItself_68 (by decide) ?_
      refine wp_reti d_Fi_saysItself_72 rt_Fi_saysItself ?_
      exact lf_i (by rw [if_neg (by decide), if_pos rfl, if_pos (by omega)]) K
  · refine cl_in ml_Fi_saysItself rfl rfl ?_
    refine wp_aload_n d_Fi_saysItself_0 rfl rfl ?_
    refine wp_getI d_Fi_saysItself_1 ow_Fi_saysItself fl_0_15 (O_F _ (by omega)) rfl (hk) ?_
    refine wp_ts (pc' := 79) d_Fi_saysItself_4 (by decide) rfl (by decide) ?_
    refine wp_aload_n d_Fi_saysItself_79 rfl rfl ?_
    refine wp_getI d_Fi_saysItself_80 ow_Fi_saysItself fl_0_19 (O_F _ (by omega)) rfl (hm) ?_
    refine wp_iconst (x := nI 2) d_Fi_saysItself_83 rfl ?_
    refine wp_iremN d_Fi_saysItself_84 (by omega) (by omega) (by omega) ?_
    refine wp_ifN_ne (pc' := 96) d_Fi_saysItself_85 (by decide) (by omega) (fun h85 => ?_) (fun h85 => ?_)
    · refine wp_aload_n d_Fi_saysItself_96 rfl rfl ?_
      refine wp_aload_n d_Fi_saysItself_97 rfl rfl ?_
      refine wp_getR d_Fi_saysItself_98 ow_Fi_saysItself fl_0_9 (O_F _ (by omega)) rfl ?_
      refine wp_invV d_Fi_saysItself_101 ow_Fi_saysItself lk_0_60 (by decide) mi_Fi_greatestBy rfl rfl (Nat.le_of_ble_eq_true rfl) rfl (wp_isC (O_F _ (by omega))) (show h_Fi_greatestBy ≤ _ from by decide) (c_greatestBy (fun S => A_G S hi10) hi10 (if mm % 2 = 0 then sp_fear q else sp_told q i) (fun o ho => by rw [if_neg h85]; exact hto o ho) (sp_told q i) hto ?_)
      refine wp_Ki ?_
      refine wp_reti d_Fi_saysItself_104 rt_Fi_saysItself ?_
      exact K
    · refine wp_aload_n d_Fi_saysItself_88 rfl rfl ?_
      refine wp_aload_n d_Fi_saysItself_89 rfl rfl ?_
      refine wp_invV d_Fi_saysItself_90 ow_Fi_saysItself lk_0_60 (by decide) mi_Fi_greatestBy rfl rfl (Nat.le_of_ble_eq_true rfl) rfl (wp_isC (O_F _ (by omega))) (show h_Fi_greatestBy ≤ _ from by decide) (c_greatestBy A_3 hi10 (if mm % 2 = 0 then sp_fear q else sp_told q i) (fun o ho => by rw [if_pos h85]; exact hfe o ho) (sp_told q i) hto ?_)
      refine wp_Ki ?_
      refine wp_goto (pc' := 104) d_Fi_saysItself_93 (by decide) ?_
      refine wp_reti d_Fi_saysItself_104 rt_Fi_saysItself ?_
      exact K
  · refine cl_in ml_Fi_saysItself rfl rfl ?_
    refine wp_aload_n d_Fi_saysItself_0 rfl rfl ?_
    refine wp_getI d_Fi_saysItself_1 ow_Fi_saysItself fl_0_15 (O_F _ (by omega)) rfl (hk) ?_
    refine wp_ts (pc' := 105) d_Fi_saysItself_4 (by decide) rfl (by decide) ?_
    refine wp_aload_n d_Fi_saysItself_105 rfl rfl ?_
    refine wp_getI d_Fi_saysItself_106 ow_Fi_saysItself fl_0_28 (O_F _ (by omega)) rfl (hf) ?_
    refine wp_reti d_Fi_saysItself_109 rt_Fi_saysItself ?_
    exact K
theorem c_says_loop (C : CL S q) (mu a : Int32) : ∀ i, (∀ j, j ≤ i → sp_fw q j) → i < sp_n q → wp (h_La_says - 1) y_La_says 31 [some (.ref 1), some (.int a), some (.int mu), some (.int (nI (sp_ch q mu i)))] [] S Q → wp (h_La_says - 1) y_La_says 2 [some (.ref 1), some (.int a), some (.int mu), some (.int (nI i))] [] S Q := by
  have h10 := C.le
  intro i
  induction i with
  | zero =>
    intro hw hi k
    refine wp_iload_n d_La_says_2 rfl rfl ?_
    refine wp_ifN_le (pc' := 31) d_La_says_3 (by decide) (by omega) (fun _ => ?_) (fun q => absurd q (by decide))
    exact k
  | succ i ih =>
    intro hw hi k
    obtain ⟨g1, g2⟩ := (hw (i + 1) (Nat.le_refl _)).kd
    have hk : S.2 (13 + 2 * (i + 1)) 2 = nI (sp_kd q (i + 1)) := (C.f hi (w := 0) (by decide)).trans g2
    have e : (nI (i + 1) ≠ mu ∧ sp_kd q (i + 1) = 6) ∨ sp_ch q mu (i + 1) = i + 1 := by
      by_cases h : nI (i + 1) ≠ mu ∧ sp_kd q (i + 1) = 6
      · exact Or.inl h
      · exact Or.inr (by unfold sp_ch; rw [if_neg h])
    generalize hj : i + 1 = j at *
    refine wp_iload_n d_La_says_2 rfl rfl ?_
    refine wp_ifN_le (pc' := 31) d_La_says_3 (by decide) (by omega) (fun h3 => absurd h3 (by omega)) (fun h3 => ?_)
    refine wp_iload_n d_La_says_6 rfl rfl ?_
    refine wp_iload_n d_La_says_7 rfl rfl ?_
    refine wp_ic_eq (pc' := 31) d_La_says_8 (by decide) (fun h8 => ?_) (fun h8 => ?_)
    · rcases e with e | e
      · first | exact absurd h8 e.1 | exact absurd e.2 h22
      · rw [e] at k
        exact k
    · refine wp_aload_n d_La_says_11 rfl rfl ?_
      refine wp_getR d_La_says_12 ow_La_says fl_1_11 (O_1 _) rfl ?_
      refine wp_iload_n d_La_says_15 rfl rfl ?_
      refine wp_aaload d_La_says_16 rfl (f_F (by omega)) (by decide) ?_
      refine wp_getI d_La_says_17 ow_La_says fl_1_101 (O_F _ (by omega)) rfl (hk) ?_
      refine wp_bipush (x := nI 6) d_La_says_20 (by decide) ?_
      refine wp_icN_ne (pc' := 31) d_La_says_22 (by decide) (by omega) (by omega) (fun h22 => ?_) (fun h22 => ?_)
      · rcases e with e | e
        · first | exact absurd h8 e.1 | exact absurd e.2 h22
        · rw [e] at k
          exact k
      · refine wp_iinc3 d_La_says_25 rfl ((hj ▸ i_dec i : nI j + Int32.ofInt (-1) = nI i)) ?_
        refine wp_goto (pc' := 2) d_La_says_28 (by decide) ?_
        subst hj
        refine ih (fun j hj => hw j (by omega)) (by omega) ?_
        rw [show sp_ch q mu (i + 1) = sp_ch q mu i from by simp only [sp_ch]; rw [if_pos ⟨h8, h22⟩]] at k
        exact k
theorem c_says (C : CL S q) (mu : Int32) (i : Nat) (hi : i < sp_n q) (hw : ∀ j, j ≤ i → sp_fw q j) (K : Q (some (.int (sp_says q mu i))) S) : cl h_La_says y_La_says [.ref 1, .int (nI i), .int mu] S Q := by
  have h10 := C.le
  have hj := sp_ch_le q mu i
  refine cl_in ml_La_says rfl rfl ?_
  refine wp_iload_n d_La_says_0 rfl rfl ?_
  refine wp_iston3 d_La_says_1 rfl ?_
  refine c_says_loop C mu _ i hw hi ?_
  unfold sp_says at K
  generalize sp_ch q mu i = j at hj K ⊢
  refine wp_iload_n d_La_says_31 rfl rfl ?_
  refine wp_iload_n d_La_says_32 rfl rfl ?_
  refine wp_ic_ne (pc' := 40) d_La_says_33 (by decide) (fun h33 => ?_) (fun h33 => ?_)
  · refine wp_aload_n d_La_says_40 rfl rfl ?_
    refine wp_getR d_La_says_41 ow_La_says fl_1_11 (O_1 _) rfl ?_
    refine wp_iload_n d_La_says_44 rfl rfl ?_
    refine wp_aaload d_La_says_45 rfl (f_F (by omega)) (by decide) ?_
    refine wp_aload_n d_La_says_46 rfl rfl ?_
    refine wp_getR d_La_says_47 ow_La_says fl_1_17 (O_1 _) rfl ?_
    refine wp_invV d_La_says_50 ow_La_says lk_1_104 (by decide) mi_Fi_saysItself rfl rfl (Nat.le_of_ble_eq_true rfl) rfl (wp_isC (O_F _ (by omega))) (show h_Fi_saysItself ≤ _ from by decide) (c_saysItself C (by omega) (hw j hj) ?_)
    refine wp_Ki ?_
    refine wp_reti d_La_says_53 rt_La_says ?_
    rw [if_neg h33] at K
    exact K
  · refine wp_iconst (x := -1) d_La_says_36 rfl ?_
    refine wp_goto (pc' := 53) d_La_says_37 (by decide) ?_
    refine wp_reti d_La_says_53 rt_La_says ?_
    rw [if_pos h33] at K
    exact K
theorem c_hasTitle (C : CL S q) {i o : Nat} (hi : i < sp_n q) (ho : o < 4) (K1 : sp_law q 0 (sp_told q i o) (sp_all q i) (sp_fear q o) ≠ 0 → ∀ S', fr cS S S' → Q (some (.int (nI 1))) S') (K0 : sp_law q 0 (sp_told q i o) (sp_all q i) (sp_fear q o) = 0 → ∀ S', fr cS S S' → Q (some (.int (nI 0))) S') : cl h_La_hasTitle y_La_hasTitle [.ref 1, .int (nI o), .ref (13 + 2 * i)] S Q := by
  have h10 := C.le
  have e : ∀ a b c, sp_law q 0 a b c = sp_raw q 0 a b c := fun a b c => if_pos rfl
  rw [e] at K1 K0
  refine cl_in ml_La_hasTitle rfl rfl ?_
  refine wp_aload_n d_La_hasTitle_0 rfl rfl ?_
  refine wp_getR d_La_hasTitle_1 ow_La_hasTitle fl_1_28 (O_1 _) rfl ?_
  refine wp_aload_n d_La_hasTitle_4 rfl rfl ?_
  refine wp_getR d_La_hasTitle_5 ow_La_hasTitle fl_1_116 (O_F _ (by omega)) rfl ?_
  refine wp_iload_n d_La_hasTitle_8 rfl rfl ?_
  refine wp_iaload d_La_hasTitle_9 (A_G _ (by omega)) (by omega) (by decide) (C.t hi ho) ?_
  refine wp_aload_n d_La_hasTitle_10 rfl rfl ?_
  refine wp_invV d_La_hasTitle_11 ow_La_hasTitle lk_1_119 (by decide) mi_Fi_toldByAll rfl rfl (Nat.le_of_ble_eq_true rfl) rfl (wp_isC (O_F _ (by omega))) (show h_Fi_toldByAll ≤ _ from by decide) (c_toldByAll C hi ?_)
  refine wp_Ki ?_
  refine wp_aload_n d_La_hasTitle_14 rfl rfl ?_
  refine wp_getR d_La_hasTitle_15 ow_La_hasTitle fl_1_17 (O_1 _) rfl ?_
  refine wp_iload_n d_La_hasTitle_18 rfl rfl ?_
  refine wp_iaload d_La_hasTitle_19 (A_3 _) (by omega) (by decide) (C.q9 ho) ?_
  refine wp_invV d_La_hasTitle_20 ow_La_hasTitle lk_1_123 (by decide) mi_Lw_work rfl rfl (Nat.le_of_ble_eq_true rfl) rfl (wp_isC (O_4 _)) (show h_Lw_work ≤ _ from by decide) (c_work0 (C.2.2 0 (by decide)) _ _ _ (fun S' f => ?_))
  refine wp_Ki ?_
  refine wp_if_eq (pc' := 30) d_La_hasTitle_23 (by decide) (fun h23 => ?_) (fun h23 => ?_)
  · refine wp_iconst (x := nI 0) d_La_hasTitle_30 rfl ?_
    refine wp_retz d_La_hasTitle_31 rt_La_hasTitle (by first | exact Or.inl rfl | exact Or.inr rfl) ?_
    exact K0 h23 S' (f.mono (fun _ _ z => Or.inl z))
  · refine wp_iconst (x := nI 1) d_La_hasTitle_26 rfl ?_
    refine wp_goto (pc' := 31) d_La_hasTitle_27 (by decide) ?_
    refine wp_retz d_La_hasTitle_31 rt_La_hasTitle (by first | exact Or.inl rfl | exact Or.inr rfl) ?_
    exact K1 h23 S' (f.mono (fun _ _ z => Or.inl z))
theorem c_ownerOf (C : CL S q) (hw : sp_wf q) (mu : Int32) (i : Nat) (hi : i < sp_n q) (K : ∀ S', fr cS S S' → Q (some (.int (sp_who q mu i))) S') : cl h_La_ownerOf y_La_ownerOf [.ref 1, .int (nI i), .int mu] S Q := by
  have hn := hw.n.1
  rcases sp_O_cases (sp_says_O (mu := mu) hw hi) with ⟨h1, h2⟩ | ⟨o, h1, h2, h3, h4⟩
  · refine cl_in ml_La_ownerOf rfl rfl ?_
    refine wp_aload_n d_La_ownerOf_0 rfl rfl ?_
    refine wp_iload_n d_La_ownerOf_1 rfl rfl ?_
    refine wp_iload_n d_La_ownerOf_2 rfl rfl ?_
    refine wp_invV d_La_ownerOf_3 ow_La_ownerOf lk_1_108 (by decide) mi_La_says rfl rfl (Nat.le_of_ble_eq_true rfl) rfl (wp_isC (O_1 _)) (show h_La_says ≤ _ from by decide) (c_says C mu i (by omega) (fun j hj => hw.f (by omega)) (lf_i h1 ?_))
    refine wp_Ki ?_
    refine wp_iston3 d_La_ownerOf_6 rfl ?_
    refine wp_iload_n d_La_ownerOf_7 rfl rfl ?_
    refine wp_if_lt (pc' := 29) d_La_ownerOf_8 (by decide) (fun h8 => ?_) (fun h8 => absurd (show (-1 : Int32) < 0 from by decide) h8)
    refine wp_iconst (x := -1) d_La_ownerOf_29 rfl ?_
    refine wp_reti d_La_ownerOf_30 rt_La_ownerOf ?_
    refine lf_i ?_ (K _ fr.rf)
    unfold sp_who
    rw [if_neg (fun z => h2 z.1)]
  · have K1 : sp_law q 0 (sp_told q i o) (sp_all q i) (sp_fear q o) ≠ 0 → ∀ S', fr cS S S' → Q (some (.int (nI o))) S' := fun g S' f => lf_i (by
      unfold sp_who
      rw [h2, nI_clamp (by omega), if_pos ⟨nI_pos' (by omega), g⟩]) (K S' f)
    have K0 : sp_law q 0 (sp_told q i o) (sp_all q i) (sp_fear q o) = 0 → ∀ S', fr cS S S' → Q (some (.int (-1))) S' := fun g S' f => lf_i (by
      unfold sp_who
      rw [h2, nI_clamp (by omega), if_neg (fun z => z.2 g)]) (K S' f)
    refine cl_in ml_La_ownerOf rfl rfl ?_
    refine wp_aload_n d_La_ownerOf_0 rfl rfl ?_
    refine wp_iload_n d_La_ownerOf_1 rfl rfl ?_
    refine wp_iload_n d_La_ownerOf_2 rfl rfl ?_
    refine wp_invV d_La_ownerOf_3 ow_La_ownerOf lk_1_108 (by decide) mi_La_says rfl rfl (Nat.le_of_ble_eq_true rfl) rfl (wp_isC (O_1 _)) (show h_La_says ≤ _ from by decide) (c_says C mu i (by omega) (fun j hj => hw.f (by omega)) (lf_i h2 ?_))
    refine wp_Ki ?_
    refine wp_iston3 d_La_ownerOf_6 rfl ?_
    refine wp_iload_n d_La_ownerOf_7 rfl rfl ?_
    refine wp_ifN_lt (pc' := 29) d_La_ownerOf_8 (by decide) (by omega) ?_
    refine wp_aload_n d_La_ownerOf_11 rfl rfl ?_
    refine wp_iload_n d_La_ownerOf_12 rfl rfl ?_
    refine wp_aload_n d_La_ownerOf_13 rfl rfl ?_
    refine wp_getR d_La_ownerOf_14 ow_La_ownerOf fl_1_11 (O_1 _) rfl ?_
    refine wp_iload_n d_La_ownerOf_17 rfl rfl ?_
    refine wp_aaload d_La_ownerOf_18 rfl (f_F (by omega)) (by decide) ?_
    refine wp_invV d_La_ownerOf_19 ow_La_ownerOf lk_1_112 (by decide) mi_La_hasTitle rfl rfl (Nat.le_of_ble_eq_true rfl) rfl (wp_isC (O_1 _)) (show h_La_hasTitle ≤ _ from by decide) (c_hasTitle C (by omega) h1 (fun g S' f => ?_) (fun g S' f => ?_))
    · refine wp_Ki ?_
      refine wp_ifN_eq (pc' := 29) d_La_ownerOf_22 (by decide) (by omega) (fun q => absurd q (by decide)) (fun _ => ?_)
      refine wp_iload_n d_La_ownerOf_25 rfl rfl ?_
      refine wp_goto (pc' := 30) d_La_ownerOf_26 (by decide) ?_
      refine wp_reti d_La_ownerOf_30 rt_La_ownerOf ?_
      exact K1 g S' f
    · refine wp_Ki ?_
      refine wp_ifN_eq (pc' := 29) d_La_ownerOf_22 (by decide) (by omega) (fun _ => ?_) (fun q => absurd q (by decide))
      refine wp_iconst (x := -1) d_La_ownerOf_29 rfl ?_
      refine wp_reti d_La_ownerOf_30 rt_La_ownerOf ?_
      exact K0 g S' f
end CA
