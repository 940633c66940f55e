/-! the class: rents, acres, sums, the coach, draws, listening -/
theorem sp_up_id (q : sp_R) (k : Nat) {x : Int32} (h : x = q k) : sp_up q k x = q := by
  funext j
  unfold sp_up
  by_cases hj : j = k
  · rw [if_pos hj, hj, h]
  · rw [if_neg hj]
theorem sp_ch_c {p q : sp_R} (h : ∀ i, sp_kd p i = sp_kd q i) (mu : Int32) : ∀ i, sp_ch p mu i = sp_ch q mu i
  | 0 => by unfold sp_ch; rfl
  | i + 1 => by
    unfold sp_ch
    rw [h, sp_ch_c h mu i]
theorem sp_who_c {p q : sp_R} (h : ∀ j, 9 ≤ j → p j = q j) (h6 : ∀ u, u < 2 → p (6 + u) = q (6 + u)) (mu : Int32) (i : Nat) : sp_who p mu i = sp_who q mu i := by
  have hf : ∀ i w, sp_f p i w = sp_f q i w := fun i w => h _ (by omega)
  have hk : ∀ i, sp_kd p i = sp_kd q i := fun i => by unfold sp_kd; rw [hf]
  have hm : ∀ i, sp_m p i = sp_m q i := fun i => by unfold sp_m; rw [hf]
  have ht : ∀ i, sp_told p i = sp_told q i := fun i => funext fun o => h _ (by omega)
  have hfe : sp_fear p = sp_fear q := funext fun o => h _ (by omega)
  have ha : ∀ i, sp_all p i = sp_all q i := fun i => by unfold sp_all; rw [ht]
  have hs : ∀ i, sp_self p i = sp_self q i := fun i => by
    unfold sp_self
    rw [hk, hm, ht, hfe, hf, hf]
  have hc := sp_ch_c hk mu
  have hsay : sp_says p mu i = sp_says q mu i := by
    unfold sp_says
    rw [hc, hs]
  have hcode : sp_code p 0 = sp_code q 0 := by
    unfold sp_code
    rw [h6 0 (by decide), show sp_tx p 0 = sp_tx q 0 from funext fun k => h _ (by omega)]
  unfold sp_who sp_law sp_raw
  rw [hsay, ha, ht, hfe, hcode]
theorem sp_cb_b (b c : Int32) (q : sp_R) : ∀ k, sp_cb (b + c) q k = sp_cb b q k + c
  | 0 => by rw [sp_cb, sp_cb]
  | k + 1 => by rw [sp_cb, sp_cb, sp_cb_b b c q k, Int32.add_assoc, Int32.add_comm c, ← Int32.add_assoc]
theorem sp_cb_s (q : sp_R) (k : Nat) : sp_cb (nI (k + 1) * q 8) q (k + 1) = sp_cb (nI k * q 8) q k + (q 8 + q (13 + 10 * k + 3)) := by
  rw [sp_cb, ← nI_add k 1, Int32.add_mul, show nI 1 = 1 from rfl, Int32.one_mul, sp_cb_b, Int32.add_assoc]
  rfl
theorem sp_cb_0 (q : sp_R) : sp_cb (nI 0 * q 8) q 0 = nI 0 := by
  rw [sp_cb, show nI 0 = 0 from rfl, Int32.zero_mul]
section CB
variable {S : wp_S} {q : sp_R} {mu : Int32} {Q : Option Value → wp_S → Prop}
theorem c_heldRent (v : Int32) (K : Q (some (.int (sp_cl v 0 999))) S) : cl h_Fo_heldRent y_Fo_heldRent [.int v] S Q := by
  have e : (if (if v < nI 999 then v else nI 999) > nI 0 then (if v < nI 999 then v else nI 999) else nI 0) = sp_cl v 0 999 := by
    unfold sp_cl
    by_cases h0 : v < 0
    · have h9 : v < nI 999 := Int32.lt_trans h0 (by decide)
      rw [if_pos h9, if_pos h0, if_neg (show ¬ v > nI 0 from fun z => Int32.lt_irrefl (Int32.lt_trans z h0))]
      rfl
    · rw [if_neg h0]
      by_cases h9 : 999 < v
      · rw [if_pos h9, if_neg (show ¬ v < nI 999 from fun z => Int32.lt_irrefl (Int32.lt_trans z h9)), if_pos (by decide)]
        rfl
      · rw [if_neg h9]
        by_cases h99 : v < nI 999
        · rw [if_pos h99]
          by_cases hz : v > nI 0
          · rw [if_pos hz]
          · rw [if_neg hz]
            exact Int32.le_antisymm (Int32.not_lt.mp h0) (Int32.not_lt.mp hz)
        · rw [if_neg h99, if_pos (by decide)]
          exact Int32.le_antisymm (Int32.not_lt.mp h99) (Int32.not_lt.mp h9)
  refine cl_in ml_Fo_heldRent rfl rfl ?_
  refine wp_iconst (x := nI 0) d_Fo_heldRent_0 rfl ?_
  refine wp_sipush (x := nI 999) d_Fo_heldRent_1 (by decide) ?_
  refine wp_iload_n d_Fo_heldRent_4 rfl rfl ?_
  refine wp_mmin d_Fo_heldRent_5 ow_Fo_heldRent lk_7_269 rfl (rfl) ?_
  refine wp_mmax d_Fo_heldRent_8 ow_Fo_heldRent lk_7_274 rfl (e) ?_
  refine wp_reti d_Fo_heldRent_11 rt_Fo_heldRent ?_
  exact K
theorem c_rentOf (C : CL S q) (hw : sp_wf q) (i : Nat) (hi : i < sp_n q) (K : ∀ S', fr cS S S' → Q (some (.int (sp_rent q (-1) i))) S') : cl h_La_rentOf y_La_rentOf [.ref 1, .int (nI i)] S Q := by
  have hn := hw.n.1
  rcases sp_O_cases (sp_who_O (mu := -1) hw hi) with ⟨h1, h2⟩ | ⟨o, h1, h2, h3, h4⟩
  · refine cl_in ml_La_rentOf rfl rfl ?_
    refine wp_aload_n d_La_rentOf_0 rfl rfl ?_
    refine wp_iload_n d_La_rentOf_1 rfl rfl ?_
    refine wp_iconst (x := -1) d_La_rentOf_2 rfl ?_
    refine wp_invV d_La_rentOf_3 ow_La_rentOf lk_1_127 (by decide) mi_La_ownerOf rfl rfl (Nat.le_of_ble_eq_true rfl) rfl (wp_isC (O_1 _)) (show h_La_ownerOf ≤ _ from by decide) (c_ownerOf C hw (-1) i hi (fun S' f => lf_i h1 ?_))
    refine wp_Ki ?_
    refine wp_iston2 d_La_rentOf_6 rfl ?_
    refine wp_iload_n d_La_rentOf_7 rfl rfl ?_
    refine wp_if_ge (pc' := 13) d_La_rentOf_8 (by decide) (fun h8 => absurd h8 (by decide)) (fun h8 => ?_)
    refine wp_iconst (x := nI 0) d_La_rentOf_11 rfl ?_
    refine wp_reti d_La_rentOf_12 rt_La_rentOf ?_
    refine lf_i ?_ (K _ f)
    unfold sp_rent
    rw [if_pos (by rw [h1]; decide)]
    rfl
  · refine cl_in ml_La_rentOf rfl rfl ?_
    refine wp_aload_n d_La_rentOf_0 rfl rfl ?_
    refine wp_iload_n d_La_rentOf_1 rfl rfl ?_
    refine wp_iconst (x := -1) d_La_rentOf_2 rfl ?_
    refine wp_invV d_La_rentOf_3 ow_La_rentOf lk_1_127 (by decide) mi_La_ownerOf rfl rfl (Nat.le_of_ble_eq_true rfl) rfl (wp_isC (O_1 _)) (show h_La_ownerOf ≤ _ from by decide) (c_ownerOf C hw (-1) i hi (fun S' f => lf_i h2 ?_))
    refine wp_Ki ?_
    refine wp_iston2 d_La_rentOf_6 rfl ?_
    refine wp_iload_n d_La_rentOf_7 rfl rfl ?_
    refine wp_ifN_ge (pc' := 13) d_La_rentOf_8 (by decide) (by omega) ?_
    refine wp_aload_n d_La_rentOf_13 rfl rfl ?_
    refine wp_getR d_La_rentOf_14 ow_La_rentOf fl_1_11 (O_1 _) rfl ?_
    refine wp_iload_n d_La_rentOf_17 rfl rfl ?_
    refine wp_aaload d_La_rentOf_18 rfl (f_F (by omega)) (by decide) ?_
    refine wp_aston3 d_La_rentOf_19 rfl ?_
    refine wp_aload_n d_La_rentOf_20 rfl rfl ?_
    refine wp_getR d_La_rentOf_21 ow_La_rentOf fl_1_34 (O_1 _) rfl ?_
    refine wp_aload_n d_La_rentOf_24 rfl rfl ?_
    refine wp_getI d_La_rentOf_25 ow_La_rentOf fl_1_130 (O_F _ (by omega)) rfl ((CL_st C f).f (by omega) (w := 2) (by decide)) ?_
    refine wp_aload_n d_La_rentOf_28 rfl rfl ?_
    refine wp_getR d_La_rentOf_29 ow_La_rentOf fl_1_116 (O_F _ (by omega)) rfl ?_
    refine wp_iload_n d_La_rentOf_32 rfl rfl ?_
    refine wp_iaload d_La_rentOf_33 (A_G _ (by omega)) (by omega) (by decide) ((CL_st C f).t (by omega) h1) ?_
    refine wp_aload_n d_La_rentOf_34 rfl rfl ?_
    refine wp_getI d_La_rentOf_35 ow_La_rentOf fl_1_133 (O_F _ (by omega)) rfl ((CL_st C f).f (by omega) (w := 1) (by decide)) ?_
    refine wp_invV d_La_rentOf_38 ow_La_rentOf lk_1_123 (by decide) mi_Lw_work rfl rfl (Nat.le_of_ble_eq_true rfl) rfl (wp_isC (O_7 _)) (show h_Lw_work ≤ _ from by decide) (c_work1 ((CL_st C f).2.2 1 (by decide)) _ _ _ (fun S'' f' => ?_))
    refine wp_Ki ?_
    refine wp_invS d_La_rentOf_41 ow_La_rentOf lk_1_136 (by decide) mi_Fo_heldRent rfl rfl (Nat.le_of_ble_eq_true rfl) rfl (show h_Fo_heldRent ≤ _ from by decide) (c_heldRent _ ?_)
    refine wp_Ki ?_
    refine wp_reti d_La_rentOf_44 rt_La_rentOf ?_
    refine lf_i ?_ (K _ (f.tr (f'.mono (fun _ _ z => Or.inr z))))
    unfold sp_rent
    rw [h2, nI_clamp (by omega), if_neg (nI_pos (by omega))]
    unfold sp_law
    rw [if_neg (by decide)]
    rfl
theorem c_many_loop (hw : sp_wf q) (o : Int32) : ∀ m k (S : wp_S), CL S q → k + m = sp_n q → (∀ S', fr cS S S' → Q (some (.int (sp_many q (-1) o (sp_n q)))) S') → wp (h_La_fieldsOf - 1) y_La_fieldsOf 4 [some (.ref 1), some (.int o), some (.int (sp_many q (-1) o k)), some (.int (nI k))] [] S Q := by
  have hn := hw.n
  intro m
  induction m with
  | zero =>
    intro k S C hk K
    obtain rfl : k = sp_n q := by omega
    refine wp_iload_n d_La_fieldsOf_4 rfl rfl ?_
    refine wp_aload_n d_La_fieldsOf_5 rfl rfl ?_
    refine wp_getI d_La_fieldsOf_6 ow_La_fieldsOf fl_1_46 (O_1 _) rfl (C.n.trans hn.2) ?_
    refine wp_icN_ge (pc' := 31) d_La_fieldsOf_9 (by decide) (by omega) (by omega) (fun h9 => ?_) (fun h9 => absurd h9 (by omega))
    refine wp_iload_n d_La_fieldsOf_31 rfl rfl ?_
    refine wp_reti d_La_fieldsOf_32 rt_La_fieldsOf ?_
    exact K _ fr.rf
  | succ m ih =>
    intro k S C hk K
    have e : sp_many q (-1) o (k + 1) = sp_many q (-1) o k + (if sp_who q (-1) k = o then nI 1 else nI 0) := rfl
    have ih := fun S C => ih (k + 1) S C (by omega)
    refine wp_iload_n d_La_fieldsOf_4 rfl rfl ?_
    refine wp_aload_n d_La_fieldsOf_5 rfl rfl ?_
    refine wp_getI d_La_fieldsOf_6 ow_La_fieldsOf fl_1_46 (O_1 _) rfl (C.n.trans hn.2) ?_
    refine wp_icN_ge (pc' := 31) d_La_fieldsOf_9 (by decide) (by omega) (by omega) (fun h9 => absurd h9 (by omega)) (fun h9 => ?_)
    refine wp_aload_n d_La_fieldsOf_12 rfl rfl ?_
    refine wp_iload_n d_La_fieldsOf_13 rfl rfl ?_
    refine wp_iconst (x := -1) d_La_fieldsOf_14 rfl ?_
    refine wp_invV d_La_fieldsOf_15 ow_La_fieldsOf lk_1_127 (by decide) mi_La_ownerOf rfl rfl (Nat.le_of_ble_eq_true rfl) rfl (wp_isC (O_1 _)) (show h_La_ownerOf ≤ _ from by decide) (c_ownerOf C hw (-1) k (by omega) (fun S' f => ?_))
    refine wp_Ki ?_
    refine wp_iload_n d_La_fieldsOf_18 rfl rfl ?_
    refine wp_ic_ne (pc' := 25) d_La_fieldsOf_19 (by decide) (fun h19 => ?_) (fun h19 => ?_)
    · refine wp_iinc3 d_La_fieldsOf_25 rfl (nI_add _ 1) ?_
      refine wp_goto (pc' := 4) d_La_fieldsOf_28 (by decide) ?_
      first
      | (rw [if_neg h19, i_a0] at e; rw [e] at ih; exact ih S' (CL_st C f) (fun S'' f' => K _ (f.tr f')))
      | (rw [if_pos h19] at e; rw [e] at ih; exact ih S' (CL_st C f) (fun S'' f' => K _ (f.tr f')))
    · refine wp_iinc2 d_La_fieldsOf_22 rfl rfl ?_
      refine wp_iinc3 d_La_fieldsOf_25 rfl (nI_add _ 1) ?_
      refine wp_goto (pc' := 4) d_La_fieldsOf_28 (by decide) ?_
      first
      | (rw [if_neg h19, i_a0] at e; rw [e] at ih; exact ih S' (CL_st C f) (fun S'' f' => K _ (f.tr f')))
      | (rw [if_pos h19] at e; rw [e] at ih; exact ih S' (CL_st C f) (fun S'' f' => K _ (f.tr f')))
theorem c_fieldsOf (C : CL S q) (hw : sp_wf q) (o : Int32) (K : ∀ S', fr cS S S' → Q (some (.int (sp_many q (-1) o (sp_n q)))) S') : cl h_La_fieldsOf y_La_fieldsOf [.ref 1, .int o] S Q := by
  refine cl_in ml_La_fieldsOf rfl rfl ?_
  refine wp_iconst (x := nI 0) d_La_fieldsOf_0 rfl ?_
  refine wp_iston2 d_La_fieldsOf_1 rfl ?_
  refine wp_iconst (x := nI 0) d_La_fieldsOf_2 rfl ?_
  refine wp_iston3 d_La_fieldsOf_3 rfl ?_
  exact c_many_loop hw o (sp_n q) 0 S C (Nat.zero_add _) K
theorem c_acres_loop (hw : sp_wf q) (o mu : Int32) : ∀ m k (S : wp_S), CL S q → k + m = sp_n q → (∀ S', fr cS S S' → Q (some (.int (sp_acres q mu o (sp_n q)))) S') → wp (h_La_acresOf - 1) y_La_acresOf 5 [some (.ref 1), some (.int o), some (.int mu), some (.int (sp_acres q mu o k)), some (.int (nI k))] [] S Q := by
  have hn := hw.n
  intro m
  induction m with
  | zero =>
    intro k S C hk K
    obtain rfl : k = sp_n q := by omega
    refine wp_iload d_La_acresOf_5 rfl ?_
    refine wp_aload_n d_La_acresOf_7 rfl rfl ?_
    refine wp_getI d_La_acresOf_8 ow_La_acresOf fl_1_46 (O_1 _) rfl (C.n.trans hn.2) ?_
    refine wp_icN_ge (pc' := 44) d_La_acresOf_11 (by decide) (by omega) (by omega) (fun h11 => ?_) (fun h11 => absurd h11 (by omega))
    refine wp_iload_n d_La_acresOf_44 rfl rfl ?_
    refine wp_reti d_La_acresOf_45 rt_La_acresOf ?_
    exact K _ fr.rf
  | succ m ih =>
    intro k S C hk K
    have e : sp_acres q mu o (k + 1) = sp_acres q mu o k + (if sp_who q mu k = o then sp_f q k 2 else nI 0) := rfl
    have ih := fun S C => ih (k + 1) S C (by omega)
    refine wp_iload d_La_acresOf_5 rfl ?_
    refine wp_aload_n d_La_acresOf_7 rfl rfl ?_
    refine wp_getI d_La_acresOf_8 ow_La_acresOf fl_1_46 (O_1 _) rfl (C.n.trans hn.2) ?_
    refine wp_icN_ge (pc' := 44) d_La_acresOf_11 (by decide) (by omega) (by omega) (fun h11 => absurd h11 (by omega)) (fun h11 => ?_)
    refine wp_aload_n d_La_acresOf_14 rfl rfl ?_
    refine wp_iload d_La_acresOf_15 rfl ?_
    refine wp_iload_n d_La_acresOf_17 rfl rfl ?_
    refine wp_invV d_La_acresOf_18 ow_La_acresOf lk_1_127 (by decide) mi_La_ownerOf rfl rfl (Nat.le_of_ble_eq_true rfl) rfl (wp_isC (O_1 _)) (show h_La_ownerOf ≤ _ from by decide) (c_ownerOf C hw mu k (by omega) (fun S' f => ?_))
    refine wp_Ki ?_
    refine wp_iload_n d_La_acresOf_21 rfl rfl ?_
    refine wp_ic_ne (pc' := 38) d_La_acresOf_22 (by decide) (fun h22 => ?_) (fun h22 => ?_)
    · refine wp_iinc4 d_La_acresOf_38 rfl (nI_add _ 1) ?_
      refine wp_goto (pc' := 5) d_La_acresOf_41 (by decide) ?_
      first
      | (rw [if_neg h22, i_a0] at e; rw [e] at ih; exact ih S' (CL_st C f) (fun S'' f' => K _ (f.tr f')))
      | (rw [if_pos h22] at e; rw [e] at ih; exact ih S' (CL_st C f) (fun S'' f' => K _ (f.tr f')))
    · refine wp_iload_n d_La_acresOf_25 rfl rfl ?_
      refine wp_aload_n d_La_acresOf_26 rfl rfl ?_
      refine wp_getR d_La_acresOf_27 ow_La_acresOf fl_1_11 (O_1 _) rfl ?_
      refine wp_iload d_La_acresOf_30 rfl ?_
      refine wp_aaload d_La_acresOf_32 rfl (f_F (by omega)) (by decide) ?_
      refine wp_getI d_La_acresOf_33 ow_La_acresOf fl_1_130 (O_F _ (by omega)) rfl ((CL_st C f).f (by omega) (w := 2) (by decide)) ?_
      refine wp_iadd d_La_acresOf_36 rfl ?_
      refine wp_iston3 d_La_acresOf_37 rfl ?_
      refine wp_iinc4 d_La_acresOf_38 rfl (nI_add _ 1) ?_
      refine wp_goto (pc' := 5) d_La_acresOf_41 (by decide) ?_
      first
      | (rw [if_neg h22, i_a0] at e; rw [e] at ih; exact ih S' (CL_st C f) (fun S'' f' => K _ (f.tr f')))
      | (rw [if_pos h22] at e; rw [e] at ih; exact ih S' (CL_st C f) (fun S'' f' => K _ (f.tr f')))
theorem c_acresOf (C : CL S q) (hw : sp_wf q) (o mu : Int32) (K : ∀ S', fr cS S S' → Q (some (.int (sp_acres q mu o (sp_n q)))) S') : cl h_La_acresOf y_La_acresOf [.ref 1, .int o, .int mu] S Q := by
  refine cl_in ml_La_acresOf rfl rfl ?_
  refine wp_iconst (x := nI 0) d_La_acresOf_0 rfl ?_
  refine wp_iston3 d_La_acresOf_1 rfl ?_
  refine wp_iconst (x := nI 0) d_La_acresOf_2 rfl ?_
  refine wp_isto4 d_La_acresOf_3 rfl ?_
  exact c_acres_loop hw o mu (sp_n q) 0 S C (Nat.zero_add _) K
theorem c_rents_loop (hw : sp_wf q) (o : Int32) : ∀ m k (S : wp_S), CL S q → k + m = sp_n q → (∀ S', fr cS S S' → Q (some (.int (sp_rents q (-1) o (sp_n q)))) S') → wp (h_La_rentsOf - 1) y_La_rentsOf 4 [some (.ref 1), some (.int o), some (.int (sp_rents q (-1) o k)), some (.int (nI k))] [] S Q := by
  have hn := hw.n
  intro m
  induction m with
  | zero =>
    intro k S C hk K
    obtain rfl : k = sp_n q := by omega
    refine wp_iload_n d_La_rentsOf_4 rfl rfl ?_
    refine wp_aload_n d_La_rentsOf_5 rfl rfl ?_
    refine wp_getI d_La_rentsOf_6 ow_La_rentsOf fl_1_46 (O_1 _) rfl (C.n.trans hn.2) ?_
    refine wp_icN_ge (pc' := 36) d_La_rentsOf_9 (by decide) (by omega) (by omega) (fun h9 => ?_) (fun h9 => absurd h9 (by omega))
    refine wp_iload_n d_La_rentsOf_36 rfl rfl ?_
    refine wp_reti d_La_rentsOf_37 rt_La_rentsOf ?_
    exact K _ fr.rf
  | succ m ih =>
    intro k S C hk K
    have e : sp_rents q (-1) o (k + 1) = sp_rents q (-1) o k + (if sp_who q (-1) k = o then sp_rent q (-1) k else nI 0) := rfl
    have ih := fun S C => ih (k + 1) S C (by omega)
    refine wp_iload_n d_La_rentsOf_4 rfl rfl ?_
    refine wp_aload_n d_La_rentsOf_5 rfl rfl ?_
    refine wp_getI d_La_rentsOf_6 ow_La_rentsOf fl_1_46 (O_1 _) rfl (C.n.trans hn.2) ?_
    refine wp_icN_ge (pc' := 36) d_La_rentsOf_9 (by decide) (by omega) (by omega) (fun h9 => absurd h9 (by omega)) (fun h9 => ?_)
    refine wp_aload_n d_La_rentsOf_12 rfl rfl ?_
    refine wp_iload_n d_La_rentsOf_13 rfl rfl ?_
    refine wp_iconst (x := -1) d_La_rentsOf_14 rfl ?_
    refine wp_invV d_La_rentsOf_15 ow_La_rentsOf lk_1_127 (by decide) mi_La_ownerOf rfl rfl (Nat.le_of_ble_eq_true rfl) rfl (wp_isC (O_1 _)) (show h_La_ownerOf ≤ _ from by decide) (c_ownerOf C hw (-1) k (by omega) (fun S' f => ?_))
    refine wp_Ki ?_
    refine wp_iload_n d_La_rentsOf_18 rfl rfl ?_
    refine wp_ic_ne (pc' := 30) d_La_rentsOf_19 (by decide) (fun h19 => ?_) (fun h19 => ?_)
    · refine wp_iinc3 d_La_rentsOf_30 rfl (nI_add _ 1) ?_
      refine wp_goto (pc' := 4) d_La_rentsOf_33 (by decide) ?_
      first
      | (rw [if_neg h19, i_a0] at e; rw [e] at ih; exact ih S' (CL_st C f) (fun S'' f' => K _ (f.tr f')))
      | (rw [if_pos h19] at e; rw [e] at ih; exact ih S2 (CL_st (CL_st C f) f2) (fun S'' f' => K _ ((f.tr f2).tr f')))
    · refine wp_iload_n d_La_rentsOf_22 rfl rfl ?_
      refine wp_aload_n d_La_rentsOf_23 rfl rfl ?_
      refine wp_iload_n d_La_rentsOf_24 rfl rfl ?_
      refine wp_invV d_La_rentsOf_25 ow_La_rentsOf lk_1_140 (by decide) mi_La_rentOf rfl rfl (Nat.le_of_ble_eq_true rfl) rfl (wp_isC (O_1 _)) (show h_La_rentOf ≤ _ from by decide) (c_rentOf (CL_st C f) hw k (by omega) (fun S2 f2 => ?_))
      refine wp_Ki ?_
      refine wp_iadd d_La_rentsOf_28 rfl ?_
      refine wp_iston2 d_La_rentsOf_29 rfl ?_
      refine wp_iinc3 d_La_rentsOf_30 rfl (nI_add _ 1) ?_
      refine wp_goto (pc' := 4) d_La_rentsOf_33 (by decide) ?_
      first
      | (rw [if_neg h19, i_a0] at e; rw [e] at ih; exact ih S' (CL_st C f) (fun S'' f' => K _ (f.tr f')))
      | (rw [if_pos h19] at e; rw [e] at ih; exact ih S2 (CL_st (CL_st C f) f2) (fun S'' f' => K _ ((f.tr f2).tr f')))
theorem c_rentsOf (C : CL S q) (hw : sp_wf q) (o : Int32) (K : ∀ S', fr cS S S' → Q (some (.int (sp_rents q (-1) o (sp_n q)))) S') : cl h_La_rentsOf y_La_rentsOf [.ref 1, .int o] S Q := by
  refine cl_in ml_La_rentsOf rfl rfl ?_
  refine wp_iconst (x := nI 0) d_La_rentsOf_0 rfl ?_
  refine wp_iston2 d_La_rentsOf_1 rfl ?_
  refine wp_iconst (x := nI 0) d_La_rentsOf_2 rfl ?_
  refine wp_iston3 d_La_rentsOf_3 rfl ?_
  exact c_rents_loop hw o (sp_n q) 0 S C (Nat.zero_add _) K
theorem c_coach_loop (C : CL S q) (hw : sp_wf q) (i : Nat) (hi : i < sp_n q) (K : Q (some (.int (sp_coach q i))) S) : ∀ m k, k + m = i + 1 → wp (h_La_coachAt - 1) y_La_coachAt 4 [some (.ref 1), some (.int (nI i)), some (.int (sp_cb (nI k * q 8) q k)), some (.int (nI k))] [] S Q := by
  have hn := hw.n
  intro m
  induction m with
  | zero =>
    intro k hk
    obtain rfl : k = i + 1 := by omega
    refine wp_iload_n d_La_coachAt_4 rfl rfl ?_
    refine wp_iload_n d_La_coachAt_5 rfl rfl ?_
    refine wp_icN_gt (pc' := 40) d_La_coachAt_6 (by decide) (by omega) (by omega) (fun h6 => ?_) (fun h6 => absurd h6 (by omega))
    refine wp_iload_n d_La_coachAt_40 rfl rfl ?_
    refine wp_reti d_La_coachAt_41 rt_La_coachAt ?_
    exact K
  | succ m ih =>
    intro k hk
    have e := sp_cb_s q k
    have ih := ih (k + 1) (by omega)
    rw [e] at ih
    refine wp_iload_n d_La_coachAt_4 rfl rfl ?_
    refine wp_iload_n d_La_coachAt_5 rfl rfl ?_
    refine wp_icN_gt (pc' := 40) d_La_coachAt_6 (by decide) (by omega) (by omega) (fun h6 => absurd h6 (by omega)) (fun h6 => ?_)
    refine wp_iload_n d_La_coachAt_9 rfl rfl ?_
    refine wp_aload_n d_La_coachAt_10 rfl rfl ?_
    refine wp_getI d_La_coachAt_11 ow_La_coachAt fl_1_46 (O_1 _) rfl (C.n.trans hn.2) ?_
    refine wp_icN_ge (pc' := 40) d_La_coachAt_14 (by decide) (by omega) (by omega) (fun h14 => absurd h14 (by omega)) (fun h14 => ?_)
    refine wp_iload_n d_La_coachAt_17 rfl rfl ?_
    refine wp_aload_n d_La_coachAt_18 rfl rfl ?_
    refine wp_getI d_La_coachAt_19 ow_La_coachAt fl_1_50 (O_1 _) rfl (C.sc 8 (by decide) (by decide) (by decide)) ?_
    refine wp_aload_n d_La_coachAt_22 rfl rfl ?_
    refine wp_getR d_La_coachAt_23 ow_La_coachAt fl_1_11 (O_1 _) rfl ?_
    refine wp_iload_n d_La_coachAt_26 rfl rfl ?_
    refine wp_aaload d_La_coachAt_27 rfl (f_F (by omega)) (by decide) ?_
    refine wp_getI d_La_coachAt_28 ow_La_coachAt fl_1_143 (O_F _ (by omega)) rfl (C.f (by omega) (w := 3) (by decide)) ?_
    refine wp_iadd d_La_coachAt_31 rfl ?_
    refine wp_iadd d_La_coachAt_32 rfl ?_
    refine wp_iston2 d_La_coachAt_33 rfl ?_
    refine wp_iinc3 d_La_coachAt_34 rfl (nI_add _ 1) ?_
    refine wp_goto (pc' := 4) d_La_coachAt_37 (by decide) ?_
    exact ih
theorem c_coachAt (C : CL S q) (hw : sp_wf q) (i : Nat) (hi : i < sp_n q) (K : Q (some (.int (sp_coach q i))) S) : cl h_La_coachAt y_La_coachAt [.ref 1, .int (nI i)] S Q := by
  have st := c_coach_loop C hw i hi K (i + 1) 0 (Nat.zero_add _)
  rw [sp_cb_0] at st
  refine cl_in ml_La_coachAt rfl rfl ?_
  refine wp_iconst (x := nI 0) d_La_coachAt_0 rfl ?_
  refine wp_iston2 d_La_coachAt_1 rfl ?_
  refine wp_iconst (x := nI 0) d_La_coachAt_2 rfl ?_
  refine wp_iston3 d_La_coachAt_3 rfl ?_
  exact st
theorem c_refuses (C : CL S q) {o i : Nat} (ho : o < 4) (hi : i < sp_n q) (K : Q (some (.int (bi (¬ (sp_told q i o < nI 9 ∧ q 1 < nI 9999))))) S) : cl h_La_refuses y_La_refuses [.ref 1, .int (nI o), .int (nI i)] S Q := by
  have h10 := C.le
  refine cl_in ml_La_refuses rfl rfl ?_
  refine wp_aload_n d_La_refuses_0 rfl rfl ?_
  refine wp_getR d_La_refuses_1 ow_La_refuses fl_1_11 (O_1 _) rfl ?_
  refine wp_iload_n d_La_refuses_4 rfl rfl ?_
  refine wp_aaload d_La_refuses_5 rfl (f_F (by omega)) (by decide) ?_
  refine wp_getR d_La_refuses_6 ow_La_refuses fl_1_116 (O_F _ (by omega)) rfl ?_
  refine wp_iload_n d_La_refuses_9 rfl rfl ?_
  refine wp_iaload d_La_refuses_10 (A_G _ (by omega)) (by omega) (by decide) (C.t hi ho) ?_
  refine wp_bipush (x := nI 9) d_La_refuses_11 (by decide) ?_
  refine wp_ic_ge (pc' := 26) d_La_refuses_13 (by decide) (fun h13 => ?_) (fun h13 => ?_)
  · refine wp_iconst (x := nI 1) d_La_refuses_26 rfl ?_
    refine wp_goto (pc' := 31) d_La_refuses_27 (by decide) ?_
    refine wp_retz d_La_refuses_31 rt_La_refuses (by first | exact Or.inl rfl | exact Or.inr rfl) ?_
    exact lf_i (x := 1) (bi_t (show ¬ (sp_told q i o < nI 9 ∧ q 1 < nI 9999) from fun z => absurd z.1 (Int32.not_lt.mpr h13))).symm K
  · refine wp_aload_n d_La_refuses_16 rfl rfl ?_
    refine wp_getI d_La_refuses_17 ow_La_refuses fl_1_53 (O_1 _) rfl (C.sc 1 (by decide) (by decide) (by decide)) ?_
    refine wp_sipush (x := nI 9999) d_La_refuses_20 (by decide) ?_
    refine wp_ic_lt (pc' := 30) d_La_refuses_23 (by decide) (fun h23 => ?_) (fun h23 => ?_)
    · refine wp_iconst (x := nI 0) d_La_refuses_30 rfl ?_
      refine wp_retz d_La_refuses_31 rt_La_refuses (by first | exact Or.inl rfl | exact Or.inr rfl) ?_
      exact lf_i (x := 0) (bi_f (fun z => z ⟨Int32.not_le.mp h13, h23⟩)).symm K
    · refine wp_iconst (x := nI 1) d_La_refuses_26 rfl ?_
      refine wp_goto (pc' := 31) d_La_refuses_27 (by decide) ?_
      refine wp_retz d_La_refuses_31 rt_La_refuses (by first | exact Or.inl rfl | exact Or.inr rfl) ?_
      exact lf_i (x := 1) (bi_t (show ¬ (sp_told q i o < nI 9 ∧ q 1 < nI 9999) from fun z => absurd z.2 h23)).symm K
theorem c_draw (C : CL S q) (K : Q (some (.int (nI (sp_dn (sp_z (q 3)))))) (wp_u S 1 11 (sp_z (q 3)))) : cl h_La_draw y_La_draw [.ref 1] S Q := by
  refine cl_in ml_La_draw rfl rfl ?_
  refine wp_aload_n d_La_draw_0 rfl rfl ?_
  refine wp_aload_n d_La_draw_1 rfl rfl ?_
  refine wp_getI d_La_draw_2 ow_La_draw fl_1_59 (O_1 _) rfl (C.sc 3 (by decide) (by decide) (by decide)) ?_
  refine wp_ldc (v := .int (1103515245)) d_La_draw_5 ow_La_draw (by decide +kernel) ?_
  refine wp_imul d_La_draw_7 rfl ?_
  refine wp_sipush (x := nI 12345) d_La_draw_8 (by decide) ?_
  refine wp_iadd d_La_draw_11 ((sp_z_e (q 3))) ?_
  refine wp_put (ty := .int) d_La_draw_12 ow_La_draw fl_1_59 (by decide +kernel) (by decide +kernel) (O_1 _) rfl ⟨rfl, rfl⟩ ?_
  refine wp_aload_n d_La_draw_15 rfl rfl ?_
  refine wp_getI d_La_draw_16 ow_La_draw fl_1_59 (O_1 _) rfl (wp_us) ?_
  refine wp_bipush (x := nI 8) d_La_draw_19 (by decide) ?_
  refine wp_iushr d_La_draw_21 (sp_dn_e _) ?_
  refine wp_reti d_La_draw_22 rt_La_draw ?_
  exact K
theorem c_hears (C : CL S q) {i : Nat} (hi : i < sp_n q) (hw : sp_fw q i) (K : Q (some (.int (bi (sp_kd q i ≠ 1 ∧ sp_kd q i ≠ 4 ∧ (sp_kd q i ≠ 6 ∨ sp_m q i % 2 = 1))))) S) : cl h_Fi_hears y_Fi_hears [.ref (13 + 2 * i)] S Q := by
  have h10 := C.le
  obtain ⟨g1, g2⟩ := hw.kd
  obtain ⟨g3, g4⟩ := hw.m
  have hk : S.2 (13 + 2 * i) 2 = nI (sp_kd q i) := (C.f hi (w := 0) (by decide)).trans g2
  have hm : S.2 (13 + 2 * i) 3 = nI (sp_m q i) := (C.f hi (w := 1) (by decide)).trans g4
  generalize sp_m q i = mm at *
  generalize sp_kd q i = kd at *
  rcases (show kd = 0 ∨ kd = 1 ∨ kd = 2 ∨ kd = 3 ∨ kd = 4 ∨ kd = 5 ∨ kd = 6 by omega) with rfl | rfl | rfl | rfl | rfl | rfl | rfl
  · refine cl_in ml_Fi_hears rfl rfl ?_
    refine wp_aload_n d_Fi_hears_0 rfl rfl ?_
    refine wp_getI d_Fi_hears_1 ow_Fi_hears fl_0_15 (O_F _ (by omega)) rfl (hk) ?_
    refine wp_ls (pc' := 58) d_Fi_hears_4 (by decide) rfl (by decide) ?_
    refine wp_iconst (x := nI 1) d_Fi_hears_58 rfl ?_
    refine wp_retz d_Fi_hears_59 rt_Fi_hears (by first | exact Or.inl rfl | exact Or.inr rfl) ?_
    exact lf_i (bi_t (by omega)).symm K
  · refine cl_in ml_Fi_hears rfl rfl ?_
    refine wp_aload_n d_Fi_hears_0 rfl rfl ?_
    refine wp_getI d_Fi_hears_1 ow_Fi_hears fl_0_15 (O_F _ (by omega)) rfl (hk) ?_
    refine wp_ls (pc' := 40) d_Fi_hears_4 (by decide) rfl (by decide) ?_
    refine wp_iconst (x := nI 0) d_Fi_hears_40 rfl ?_
    refine wp_retz d_Fi_hears_41 rt_Fi_hears (by first | exact Or.inl rfl | exact Or.inr rfl) ?_
    exact lf_i (bi_f (by omega)).symm K
  · refine cl_in ml_Fi_hears rfl rfl ?_
    refine wp_aload_n d_Fi_hears_0 rfl rfl ?_
    refine wp_getI d_Fi_hears_1 ow_Fi_hears fl_0_15 (O_F _ (by omega)) rfl (hk) ?_
    refine wp_ls (pc' := 58) d_Fi_hears_4 (by decide) rfl (by decide) ?_
    refine wp_iconst (x := nI 1) d_Fi_hears_58 rfl ?_
    refine wp_retz d_Fi_hears_59 rt_Fi_hears (by first | exact Or.inl rfl | exact Or.inr rfl) ?_
    exact lf_i (bi_t (by omega)).symm K
  · refine cl_in ml_Fi_hears rfl rfl ?_
    refine wp_aload_n d_Fi_hears_0 rfl rfl ?_
    refine wp_getI d_Fi_hears_1 ow_Fi_hears fl_0_15 (O_F _ (by omega)) rfl (hk) ?_
    refine wp_ls (pc' := 58) d_Fi_hears_4 (by decide) rfl (by decide) ?_
    refine wp_iconst (x := nI 1) d_Fi_hears_58 rfl ?_
    refine wp_retz d_Fi_hears_59 rt_Fi_hears (by first | exact Or.inl rfl | exact Or.inr rfl) ?_
    exact lf_i (bi_t (by omega)).symm K
  · refine cl_in ml_Fi_hears rfl rfl ?_
    refine wp_aload_n d_Fi_hears_0 rfl rfl ?_
    refine wp_getI d_Fi_hears_1 ow_Fi_hears fl_0_15 (O_F _ (by omega)) rfl (hk) ?_
    refine wp_ls (pc' := 40) d_Fi_hears_4 (by decide) rfl (by decide) ?_
    refine wp_iconst (x := nI 0) d_Fi_hears_40 rfl ?_
    refine wp_retz d_Fi_hears_41 rt_Fi_hears (by first | exact Or.inl rfl | exact Or.inr rfl) ?_
    exact lf_i (bi_f (by omega)).symm K
  · refine cl_in ml_Fi_hears rfl rfl ?_
    refine wp_aload_n d_Fi_hears_0 rfl rfl ?_
    refine wp_getI d_Fi_hears_1 ow_Fi_hears fl_0_15 (O_F _ (by omega)) rfl (hk) ?_
    refine wp_ls (pc' := 58) d_Fi_hears_4 (by decide) rfl (by decide) ?_
    refine wp_iconst (x := nI 1) d_Fi_hears_58 rfl ?_
    refine wp_retz d_Fi_hears_59 rt_Fi_hears (by first | exact Or.inl rfl | exact Or.inr rfl) ?_
    exact lf_i (bi_t (by omega)).symm K
  · refine cl_in ml_Fi_hears rfl rfl ?_
    refine wp_aload_n d_Fi_hears_0 rfl rfl ?_
    refine wp_getI d_Fi_hears_1 ow_Fi_hears fl_0_15 (O_F _ (by omega)) rfl (hk) ?_
    refine wp_ls (pc' := 42) d_Fi_hears_4 (by decide) rfl (by decide) ?_
    refine wp_aload_n d_Fi_hears_42 rfl rfl ?_
    refine wp_getI d_Fi_hears_43 ow_Fi_hears fl_0_19 (O_F _ (by omega)) rfl (hm) ?_
    refine wp_iconst (x := nI 2) d_Fi_hears_46 rfl ?_
    refine wp_iremN d_Fi_hears_47 (by omega) (by omega) (by omega) ?_
    refine wp_iconst (x := nI 1) d_Fi_hears_48 rfl ?_
    refine wp_icN_ne (pc' := 56) d_Fi_hears_49 (by decide) (by omega) (by omega) (fun h49 => ?_) (fun h49 => ?_)
    · refine wp_iconst (x := nI 0) d_Fi_hears_56 rfl ?_
      refine wp_retz d_Fi_hears_57 rt_Fi_hears (by first | exact Or.inl rfl | exact Or.inr rfl) ?_
      exact lf_i (bi_f (by omega)).symm K
    · refine wp_iconst (x := nI 1) d_Fi_hears_52 rfl ?_
      refine wp_goto (pc' := 57) d_Fi_hears_53 (by decide) ?_
      refine wp_retz d_Fi_hears_57 rt_Fi_hears (by first | exact Or.inl rfl | exact Or.inr rfl) ?_
      exact lf_i (bi_t (by omega)).symm K
/-- room that a listening changes -/
def cF (i : Nat) (k j : Nat) : Prop := (k = 13 + 2 * i ∧ (j = 6 ∨ j = 7)) ∨ (k = 14 + 2 * i ∧ j < 4)
theorem c_listen (C : CL S q) {o i : Nat} (hi : i < sp_n q) (ho : o < 4) (hw : sp_fw q i) (K : ∀ S', CL S' (sp_hr q o i) → fr (cF i) S S' → Q none S') : cl h_Fi_listen y_Fi_listen [.ref (13 + 2 * i), .int (nI o)] S Q := by
  have hO : sp_f q i 4 = -1 ∨ ¬ sp_f q i 4 < 0 := by
    rcases hw.2.2.2.2.1 with h | ⟨b, hb, h⟩
    · exact Or.inl h
    · exact Or.inr (by rw [h]; exact nI_pos (by omega))
  have h10 := C.le
  have hi10 : i < 10 := by omega
  have C1 := C.wtt hi10 ho (sp_told q i o + nI 1)
  have C2 := C1.wf hi10 (w := 5) (by decide) (nI o)
  have n2 : sp_n (sp_up (sp_up q (13 + 10 * i + (6 + o)) (sp_told q i o + nI 1)) (13 + 10 * i + 5) (nI o)) = sp_n q := by rw [sp_n_up _ (by omega), sp_n_up _ (by omega)]
  have f2 : fr (cF i) S (wp_u (wp_u S (14 + 2 * i) o (sp_told q i o + nI 1)) (13 + 2 * i) 7 (nI o)) := (fr.rf.up (Or.inr ⟨rfl, ho⟩)).up (Or.inl ⟨rfl, Or.inr rfl⟩)
  have e4 : sp_up (sp_up q (13 + 10 * i + (6 + o)) (sp_told q i o + nI 1)) (13 + 10 * i + 5) (nI o) (13 + 10 * i + 4) = sp_f q i 4 := by
    rw [sp_up_ne _ _ (by omega), sp_up_ne _ _ (by omega)]
    rfl
  refine cl_in ml_Fi_listen rfl rfl ?_
  refine wp_iload_n d_Fi_listen_0 rfl rfl ?_
  refine wp_invS d_Fi_listen_1 ow_Fi_listen lk_0_52 (by decide) mi_Fo_isOwner rfl rfl (Nat.le_of_ble_eq_true rfl) rfl (show h_Fo_isOwner ≤ _ from by decide) (c_isOwner _ ?_)
  refine wp_Ki ?_
  refine wp_ifB_eq (pc' := 25) d_Fi_listen_4 (by decide) (fun h4 => absurd ⟨nI_pos' (by omega), (nI_leI (by omega) (by decide)).mpr (by omega)⟩ h4) (fun h4 => ?_)
  refine wp_aload_n d_Fi_listen_7 rfl rfl ?_
  refine wp_invV d_Fi_listen_8 ow_Fi_listen lk_0_56 (by decide) mi_Fi_hears rfl rfl (Nat.le_of_ble_eq_true rfl) rfl (wp_isC (O_F _ (by omega))) (show h_Fi_hears ≤ _ from by decide) (c_hears C hi hw ?_)
  refine wp_Ki ?_
  refine wp_ifB_eq (pc' := 25) d_Fi_listen_11 (by decide) (fun h11 => ?_) (fun h11 => ?_)
  · refine wp_return d_Fi_listen_25 rt_Fi_listen ?_
    refine K S ?_ fr.rf
    unfold sp_hr
    rw [if_neg (fun z => h11 z.1)]
    exact C
  · refine wp_aload_n d_Fi_listen_14 rfl rfl ?_
    refine wp_getR d_Fi_listen_15 ow_Fi_listen fl_0_9 (O_F _ (by omega)) rfl ?_
    refine wp_iload_n d_Fi_listen_18 rfl rfl ?_
    refine wp_iaload d_Fi_listen_19 (A_G _ (by omega)) (by omega) (by decide) (C.t hi ho) ?_
    refine wp_bipush (x := nI 9) d_Fi_listen_20 (by decide) ?_
    refine wp_ic_lt (pc' := 26) d_Fi_listen_22 (by decide) (fun h22 => ?_) (fun h22 => ?_)
    · refine wp_aload_n d_Fi_listen_26 rfl rfl ?_
      refine wp_getR d_Fi_listen_27 ow_Fi_listen fl_0_9 (O_F _ (by omega)) rfl ?_
      refine wp_iload_n d_Fi_listen_30 rfl rfl ?_
      refine wp_dup2 d_Fi_listen_31 ⟨rfl, rfl⟩ ?_
      refine wp_iaload d_Fi_listen_32 (A_G _ (by omega)) (by omega) (by decide) (C.t hi ho) ?_
      refine wp_iconst (x := nI 1) d_Fi_listen_33 rfl ?_
      refine wp_iadd d_Fi_listen_34 rfl ?_
      refine wp_iastore d_Fi_listen_35 (A_G _ (by omega)) (by omega) (by decide) ?_
      refine wp_aload_n d_Fi_listen_36 rfl rfl ?_
      refine wp_iload_n d_Fi_listen_37 rfl rfl ?_
      refine wp_put (ty := .int) d_Fi_listen_38 ow_Fi_listen fl_0_31 (by decide +kernel) (by decide +kernel) (O_F _ (by omega)) rfl ⟨rfl, rfl⟩ ?_
      refine wp_aload_n d_Fi_listen_41 rfl rfl ?_
      refine wp_getI d_Fi_listen_42 ow_Fi_listen fl_0_28 (O_F _ (by omega)) rfl ((C2.f (by omega) (w := 4) (by decide)).trans e4) ?_
      refine wp_iconst (x := -1) d_Fi_listen_45 rfl ?_
      refine wp_ic_ne (pc' := 54) d_Fi_listen_46 (by decide) (fun h46 => ?_) (fun h46 => ?_)
      · refine wp_return d_Fi_listen_54 rt_Fi_listen ?_
        refine K _ ?_ f2
        unfold sp_hr
        rw [if_pos ⟨h11, h22⟩, if_neg (hO.elim (fun z => absurd z h46) id), sp_up_id _ _ e4.symm]
        exact C2
      · refine wp_aload_n d_Fi_listen_49 rfl rfl ?_
        refine wp_iload_n d_Fi_listen_50 rfl rfl ?_
        refine wp_put (ty := .int) d_Fi_listen_51 ow_Fi_listen fl_0_28 (by decide +kernel) (by decide +kernel) (O_F _ (by omega)) rfl ⟨rfl, rfl⟩ ?_
        refine wp_return d_Fi_listen_54 rt_Fi_listen ?_
        refine K _ ?_ (f2.up (Or.inl ⟨rfl, Or.inl rfl⟩))
        unfold sp_hr
        rw [if_pos ⟨h11, h22⟩, if_pos (show sp_f q i 4 < 0 from h46 ▸ (by decide))]
        exact C2.wf hi10 (w := 4) (by decide) (nI o)
    · refine wp_return d_Fi_listen_25 rt_Fi_listen ?_
      refine K S ?_ fr.rf
      unfold sp_hr
      rw [if_neg (fun z => h22 z.2)]
      exact C
end CB
