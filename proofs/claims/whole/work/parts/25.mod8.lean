/-! the reference: whose a field is, its rent, the acres of an owner -/
def sp_rent (q : sp_R) (mu : Int32) (i : Nat) : Int32 := if sp_who q mu i < 0 then 0 else sp_law q 1 (sp_f q i 2) (sp_told q i (sp_who q mu i).toNatClampNeg) (sp_f q i 1)
def sp_acres (q : sp_R) (mu o : Int32) : Nat → Int32
  | 0 => nI 0
  | k + 1 => sp_acres q mu o k + (if sp_who q mu k = o then sp_f q k 2 else nI 0)
def sp_many (q : sp_R) (mu o : Int32) : Nat → Int32
  | 0 => nI 0
  | k + 1 => sp_many q mu o k + (if sp_who q mu k = o then nI 1 else nI 0)
def sp_rents (q : sp_R) (mu o : Int32) : Nat → Int32
  | 0 => nI 0
  | k + 1 => sp_rents q mu o k + (if sp_who q mu k = o then sp_rent q mu k else nI 0)
/-- the reference's row, and its mute -/
def mC (S : wp_S) (q : sp_R) (mu : Int32) : Prop := S.2 92 = q ∧ S.2 91 7 = mu
theorem mC.fr {S S' : wp_S} {q : sp_R} {mu : Int32} (h : mC S q mu) (f : fr ps_D S S') : mC S' q mu := ⟨(f.row (fun j z => by unfold ps_D at z; omega)).trans h.1, (f.2 91 7 (fun z => by unfold ps_D at z; omega)).trans h.2⟩
theorem sp_who_O {q : sp_R} {mu : Int32} {i : Nat} (hw : sp_wf q) (hi : i < sp_n q) : sp_isO (sp_who q mu i) := by
  unfold sp_who
  split
  · exact sp_says_O hw hi
  · exact Or.inl rfl
section WH
variable {S : wp_S} {q : sp_R} {mu : Int32} {Q : Option Value → wp_S → Prop}
theorem m_whose (C : mC S q mu) (hw : sp_wf q) (i : Nat) (hi : i < sp_n q) (K : ∀ S', fr ps_D S S' → Q (some (.int (sp_who q mu i))) S') : cl h_Mo_whose y_Mo_whose [.ref k_Mo, .int (nI i)] S Q := by
  have hn := hw.n.1
  rcases sp_O_cases (sp_says_O (mu := mu) hw hi) with ⟨h1, h2⟩ | ⟨o, h1, h2, h3, h4⟩
  · refine cl_in ml_Mo_whose rfl rfl ?_
    refine wp_aload_n d_Mo_whose_0 rfl rfl ?_
    refine wp_iload_n d_Mo_whose_1 rfl rfl ?_
    refine wp_invV d_Mo_whose_2 ow_Mo_whose lk_8_80 (by decide) mi_Mo_saysNow rfl rfl (Nat.le_of_ble_eq_true rfl) rfl (wp_isC (O_91 _)) (show h_Mo_saysNow ≤ _ from by decide) (m_saysNow C.1 C.2 i (by omega) (fun j hj => hw.f (by omega)) (lf_i h1 ?_))
    refine wp_Ki ?_
    refine wp_iston2 d_Mo_whose_5 rfl ?_
    refine wp_iload_n d_Mo_whose_6 rfl rfl ?_
    refine wp_if_lt (pc' := 45) d_Mo_whose_7 (by decide) (fun h7 => ?_) (fun h7 => absurd (show (-1 : Int32) < 0 from by decide) h7)
    refine wp_iconst (x := -1) d_Mo_whose_45 rfl ?_
    refine wp_reti d_Mo_whose_46 rt_Mo_whose ?_
    refine lf_i ?_ (K _ fr.rf)
    unfold sp_who
    rw [if_neg (fun z => h2 z.1)]
  · refine cl_in ml_Mo_whose rfl rfl ?_
    refine wp_aload_n d_Mo_whose_0 rfl rfl ?_
    refine wp_iload_n d_Mo_whose_1 rfl rfl ?_
    refine wp_invV d_Mo_whose_2 ow_Mo_whose lk_8_80 (by decide) mi_Mo_saysNow rfl rfl (Nat.le_of_ble_eq_true rfl) rfl (wp_isC (O_91 _)) (show h_Mo_saysNow ≤ _ from by decide) (m_saysNow C.1 C.2 i (by omega) (fun j hj => hw.f (by omega)) (lf_i h2 ?_))
    refine wp_Ki ?_
    refine wp_iston2 d_Mo_whose_5 rfl ?_
    refine wp_iload_n d_Mo_whose_6 rfl rfl ?_
    refine wp_ifN_lt (pc' := 45) d_Mo_whose_7 (by decide) (by omega) ?_
    refine wp_aload_n d_Mo_whose_10 rfl rfl ?_
    refine wp_iconst (x := nI 0) d_Mo_whose_11 rfl ?_
    refine wp_aload_n d_Mo_whose_12 rfl rfl ?_
    refine wp_iload_n d_Mo_whose_13 rfl rfl ?_
    refine wp_bipush (x := nI 6) d_Mo_whose_14 (by decide) ?_
    refine wp_iload_n d_Mo_whose_16 rfl rfl ?_
    refine wp_iadd d_Mo_whose_17 (nI_add _ _) ?_
    refine wp_invV d_Mo_whose_18 ow_Mo_whose lk_8_72 (by decide) mi_Mo_its rfl rfl (Nat.le_of_ble_eq_true rfl) rfl (wp_isC (O_91 _)) (show h_Mo_its ≤ _ from by decide) (m_its C.1 i _ (by omega) ?_)
    refine wp_Ki ?_
    refine wp_aload_n d_Mo_whose_21 rfl rfl ?_
    refine wp_iload_n d_Mo_whose_22 rfl rfl ?_
    refine wp_invV d_Mo_whose_23 ow_Mo_whose lk_8_83 (by decide) mi_Mo_toldBy rfl rfl (Nat.le_of_ble_eq_true rfl) rfl (wp_isC (O_91 _)) (show h_Mo_toldBy ≤ _ from by decide) (m_toldBy C.1 i (by omega) ?_)
    refine wp_Ki ?_
    refine wp_aload_n d_Mo_whose_26 rfl rfl ?_
    refine wp_getR d_Mo_whose_27 ow_Mo_whose fl_8_7 (O_91 _) rfl ?_
    refine wp_bipush (x := nI 9) d_Mo_whose_30 (by decide) ?_
    refine wp_iload_n d_Mo_whose_32 rfl rfl ?_
    refine wp_iadd d_Mo_whose_33 (nI_add _ _) ?_
    refine wp_iaload d_Mo_whose_34 (A_92 _) (by omega) (by decide) (congrFun C.1 _) ?_
    refine wp_invV d_Mo_whose_35 ow_Mo_whose lk_8_86 (by decide) mi_Mo_lawOf rfl rfl (Nat.le_of_ble_eq_true rfl) rfl (wp_isC (O_91 _)) (show h_Mo_lawOf ≤ _ from by decide) (m_lawOf C.1 (by decide) (hw.2.2.1 0 (by decide)) (fun S' f => ?_))
    refine wp_Ki ?_
    refine wp_if_eq (pc' := 45) d_Mo_whose_38 (by decide) (fun h38 => ?_) (fun h38 => ?_)
    · refine wp_iconst (x := -1) d_Mo_whose_45 rfl ?_
      refine wp_reti d_Mo_whose_46 rt_Mo_whose ?_
      refine lf_i ?_ (K _ f)
      unfold sp_who
      rw [h2, nI_clamp (by omega), if_neg (fun z => z.2 h38)]
    · refine wp_iload_n d_Mo_whose_41 rfl rfl ?_
      refine wp_goto (pc' := 46) d_Mo_whose_42 (by decide) ?_
      refine wp_reti d_Mo_whose_46 rt_Mo_whose ?_
      refine lf_i ?_ (K _ f)
      unfold sp_who
      rw [h2, nI_clamp (by omega), if_pos ⟨nI_pos' (by omega), h38⟩]
theorem m_rentOf (C : mC S q mu) (hw : sp_wf q) (i : Nat) (hi : i < sp_n q) (K : ∀ S', fr ps_D S S' → Q (some (.int (sp_rent q mu i))) S') : cl h_Mo_rentOf y_Mo_rentOf [.ref k_Mo, .int (nI i)] S Q := by
  have hn := hw.n.1
  rcases sp_O_cases (sp_who_O (mu := mu) hw hi) with ⟨h1, h2⟩ | ⟨o, h1, h2, h3, h4⟩
  · refine cl_in ml_Mo_rentOf rfl rfl ?_
    refine wp_aload_n d_Mo_rentOf_0 rfl rfl ?_
    refine wp_iload_n d_Mo_rentOf_1 rfl rfl ?_
    refine wp_invV d_Mo_rentOf_2 ow_Mo_rentOf lk_8_90 (by decide) mi_Mo_whose rfl rfl (Nat.le_of_ble_eq_true rfl) rfl (wp_isC (O_91 _)) (show h_Mo_whose ≤ _ from by decide) (m_whose C hw i hi (fun S' f => lf_i h1 ?_))
    refine wp_Ki ?_
    refine wp_iston2 d_Mo_rentOf_5 rfl ?_
    refine wp_iload_n d_Mo_rentOf_6 rfl rfl ?_
    refine wp_if_ge (pc' := 14) d_Mo_rentOf_7 (by decide) (fun h7 => absurd h7 (by decide)) (fun h7 => ?_)
    refine wp_iconst (x := nI 0) d_Mo_rentOf_10 rfl ?_
    refine wp_goto (pc' := 40) d_Mo_rentOf_11 (by decide) ?_
    refine wp_reti d_Mo_rentOf_40 rt_Mo_rentOf ?_
    refine lf_i ?_ (K _ f)
    unfold sp_rent
    rw [if_pos (by rw [h1]; decide)]
    rfl
  · refine cl_in ml_Mo_rentOf rfl rfl ?_
    refine wp_aload_n d_Mo_rentOf_0 rfl rfl ?_
    refine wp_iload_n d_Mo_rentOf_1 rfl rfl ?_
    refine wp_invV d_Mo_rentOf_2 ow_Mo_rentOf lk_8_90 (by decide) mi_Mo_whose rfl rfl (Nat.le_of_ble_eq_true rfl) rfl (wp_isC (O_91 _)) (show h_Mo_whose ≤ _ from by decide) (m_whose C hw i hi (fun S' f => lf_i h2 ?_))
    refine wp_Ki ?_
    refine wp_iston2 d_Mo_rentOf_5 rfl ?_
    refine wp_iload_n d_Mo_rentOf_6 rfl rfl ?_
    refine wp_ifN_ge (pc' := 14) d_Mo_rentOf_7 (by decide) (by omega) ?_
    refine wp_aload_n d_Mo_rentOf_14 rfl rfl ?_
    refine wp_iconst (x := nI 1) d_Mo_rentOf_15 rfl ?_
    refine wp_aload_n d_Mo_rentOf_16 rfl rfl ?_
    refine wp_iload_n d_Mo_rentOf_17 rfl rfl ?_
    refine wp_iconst (x := nI 2) d_Mo_rentOf_18 rfl ?_
    refine wp_invV d_Mo_rentOf_19 ow_Mo_rentOf lk_8_72 (by decide) mi_Mo_its rfl rfl (Nat.le_of_ble_eq_true rfl) rfl (wp_isC (O_91 _)) (show h_Mo_its ≤ _ from by decide) (m_its (C.fr f).1 i _ (by omega) ?_)
    refine wp_Ki ?_
    refine wp_aload_n d_Mo_rentOf_22 rfl rfl ?_
    refine wp_iload_n d_Mo_rentOf_23 rfl rfl ?_
    refine wp_bipush (x := nI 6) d_Mo_rentOf_24 (by decide) ?_
    refine wp_iload_n d_Mo_rentOf_26 rfl rfl ?_
    refine wp_iadd d_Mo_rentOf_27 (nI_add _ _) ?_
    refine wp_invV d_Mo_rentOf_28 ow_Mo_rentOf lk_8_72 (by decide) mi_Mo_its rfl rfl (Nat.le_of_ble_eq_true rfl) rfl (wp_isC (O_91 _)) (show h_Mo_its ≤ _ from by decide) (m_its (C.fr f).1 i _ (by omega) ?_)
    refine wp_Ki ?_
    refine wp_aload_n d_Mo_rentOf_31 rfl rfl ?_
    refine wp_iload_n d_Mo_rentOf_32 rfl rfl ?_
    refine wp_iconst (x := nI 1) d_Mo_rentOf_33 rfl ?_
    refine wp_invV d_Mo_rentOf_34 ow_Mo_rentOf lk_8_72 (by decide) mi_Mo_its rfl rfl (Nat.le_of_ble_eq_true rfl) rfl (wp_isC (O_91 _)) (show h_Mo_its ≤ _ from by decide) (m_its (C.fr f).1 i _ (by omega) ?_)
    refine wp_Ki ?_
    refine wp_invV d_Mo_rentOf_37 ow_Mo_rentOf lk_8_86 (by decide) mi_Mo_lawOf rfl rfl (Nat.le_of_ble_eq_true rfl) rfl (wp_isC (O_91 _)) (show h_Mo_lawOf ≤ _ from by decide) (m_lawOf (C.fr f).1 (by decide) (hw.2.2.1 1 (by decide)) (fun S'' f' => ?_))
    refine wp_Ki ?_
    refine wp_reti d_Mo_rentOf_40 rt_Mo_rentOf ?_
    refine lf_i ?_ (K _ (f.tr f'))
    unfold sp_rent
    rw [h2, nI_clamp (by omega), if_neg (nI_pos (by omega))]
    rfl
theorem m_acres_loop (hw : sp_wf q) (o : Int32) : ∀ m k (S : wp_S), mC S q mu → k + m = sp_n q → (∀ S', fr ps_D S S' → Q (some (.int (sp_acres q mu o (sp_n q)))) S') → wp (h_Mo_acresOf - 1) y_Mo_acresOf 4 [some (.ref 91), some (.int o), some (.int (sp_acres q mu o k)), some (.int (nI k))] [] S Q := by
  have hn := hw.n
  intro m
  induction m with
  | zero =>
    intro k S C hk K
    obtain rfl : k = sp_n q := by omega
    refine wp_iload_n d_Mo_acresOf_4 rfl rfl ?_
    refine wp_aload_n d_Mo_acresOf_5 rfl rfl ?_
    refine wp_getR d_Mo_acresOf_6 ow_Mo_acresOf fl_8_7 (O_91 _) rfl ?_
    refine wp_iconst (x := nI 0) d_Mo_acresOf_9 rfl ?_
    refine wp_iaload d_Mo_acresOf_10 (A_92 _) (by omega) (by decide) ((congrFun C.1 0).trans hn.2) ?_
    refine wp_icN_ge (pc' := 42) d_Mo_acresOf_11 (by decide) (by omega) (by omega) (fun h11 => ?_) (fun h11 => absurd h11 (by omega))
    refine wp_iload_n d_Mo_acresOf_42 rfl rfl ?_
    refine wp_reti d_Mo_acresOf_43 rt_Mo_acresOf ?_
    exact K _ fr.rf
  | succ m ih =>
    intro k S C hk K
    refine wp_iload_n d_Mo_acresOf_4 rfl rfl ?_
    refine wp_aload_n d_Mo_acresOf_5 rfl rfl ?_
    refine wp_getR d_Mo_acresOf_6 ow_Mo_acresOf fl_8_7 (O_91 _) rfl ?_
    refine wp_iconst (x := nI 0) d_Mo_acresOf_9 rfl ?_
    refine wp_iaload d_Mo_acresOf_10 (A_92 _) (by omega) (by decide) ((congrFun C.1 0).trans hn.2) ?_
    refine wp_icN_ge (pc' := 42) d_Mo_acresOf_11 (by decide) (by omega) (by omega) (fun h11 => absurd h11 (by omega)) (fun h11 => ?_)
    refine wp_iload_n d_Mo_acresOf_14 rfl rfl ?_
    refine wp_aload_n d_Mo_acresOf_15 rfl rfl ?_
    refine wp_iload_n d_Mo_acresOf_16 rfl rfl ?_
    refine wp_invV d_Mo_acresOf_17 ow_Mo_acresOf lk_8_90 (by decide) mi_Mo_whose rfl rfl (Nat.le_of_ble_eq_true rfl) rfl (wp_isC (O_91 _)) (show h_Mo_whose ≤ _ from by decide) (m_whose C hw k (by omega) (fun S' f => ?_))
    refine wp_Ki ?_
    refine wp_iload_n d_Mo_acresOf_20 rfl rfl ?_
    refine wp_ic_ne (pc' := 33) d_Mo_acresOf_21 (by decide) (fun h21 => ?_) (fun h21 => ?_)
    · refine wp_iconst (x := nI 0) d_Mo_acresOf_33 rfl ?_
      refine wp_iadd d_Mo_acresOf_34 rfl ?_
      refine wp_iston2 d_Mo_acresOf_35 rfl ?_
      refine wp_iinc3 d_Mo_acresOf_36 rfl (nI_add _ 1) ?_
      refine wp_goto (pc' := 4) d_Mo_acresOf_39 (by decide) ?_
      have e : sp_acres q mu o (k + 1) = sp_acres q mu o k + (if sp_who q mu k = o then sp_f q k 2 else nI 0) := rfl
      first
      | (rw [if_neg h21] at e; rw [← e]; exact ih (k + 1) _ (C.fr f) (by omega) (fun S'' f' => K _ (f.tr f')))
      | (rw [if_pos h21] at e; exact e ▸ ih (k + 1) _ (C.fr f) (by omega) (fun S'' f' => K _ (f.tr f')))
    · refine wp_aload_n d_Mo_acresOf_24 rfl rfl ?_
      refine wp_iload_n d_Mo_acresOf_25 rfl rfl ?_
      refine wp_iconst (x := nI 2) d_Mo_acresOf_26 rfl ?_
      refine wp_invV d_Mo_acresOf_27 ow_Mo_acresOf lk_8_72 (by decide) mi_Mo_its rfl rfl (Nat.le_of_ble_eq_true rfl) rfl (wp_isC (O_91 _)) (show h_Mo_its ≤ _ from by decide) (m_its (C.fr f).1 k 2 (by omega) ?_)
      refine wp_Ki ?_
      refine wp_goto (pc' := 34) d_Mo_acresOf_30 (by decide) ?_
      refine wp_iadd d_Mo_acresOf_34 rfl ?_
      refine wp_iston2 d_Mo_acresOf_35 rfl ?_
      refine wp_iinc3 d_Mo_acresOf_36 rfl (nI_add _ 1) ?_
      refine wp_goto (pc' := 4) d_Mo_acresOf_39 (by decide) ?_
      have e : sp_acres q mu o (k + 1) = sp_acres q mu o k + (if sp_who q mu k = o then sp_f q k 2 else nI 0) := rfl
      first
      | (rw [if_neg h21] at e; rw [← e]; exact ih (k + 1) _ (C.fr f) (by omega) (fun S'' f' => K _ (f.tr f')))
      | (rw [if_pos h21] at e; exact e ▸ ih (k + 1) _ (C.fr f) (by omega) (fun S'' f' => K _ (f.tr f')))
theorem m_acresOf (C : mC S q mu) (hw : sp_wf q) (o : Int32) (K : ∀ S', fr ps_D S S' → Q (some (.int (sp_acres q mu o (sp_n q)))) S') : cl h_Mo_acresOf y_Mo_acresOf [.ref k_Mo, .int o] S Q := by
  refine cl_in ml_Mo_acresOf rfl rfl ?_
  refine wp_iconst (x := nI 0) d_Mo_acresOf_0 rfl ?_
  refine wp_iston2 d_Mo_acresOf_1 rfl ?_
  refine wp_iconst (x := nI 0) d_Mo_acresOf_2 rfl ?_
  refine wp_iston3 d_Mo_acresOf_3 rfl ?_
  exact m_acres_loop hw o (sp_n q) 0 S C (Nat.zero_add _) K
end WH
