/-! the reference: what a text comes to -/
section PV
variable {S : wp_S} {q : sp_R} {u n : Nat} {a b c : Int32} {Q : Option Value → wp_S → Prop}
theorem sp_st_n (m : Nat) (hm : m < 10000) (St : List Int32) : sp_ex a b c [nI m] St = nI m :: St := by
  show sp_st a b c (nI m) St = _
  unfold sp_st
  rw [if_pos (show nI m < (20000 : Int32) from (nI_ltI (a := m) (b := 20000) (by omega) (by decide)).mpr (by omega)), if_pos (show nI m < (10000 : Int32) from (nI_ltI (a := m) (b := 10000) (by omega) (by decide)).mpr hm)]
theorem sp_st_1 (St : List Int32) : sp_ex a b c [10000] St = a :: St := by
  show sp_st a b c 10000 St = _
  unfold sp_st
  rw [if_pos (by decide), if_neg (by decide), if_pos rfl]
theorem sp_st_2 (St : List Int32) : sp_ex a b c [10001] St = b :: St := by
  show sp_st a b c 10001 St = _
  unfold sp_st
  rw [if_pos (by decide), if_neg (by decide), if_neg (by decide), if_pos rfl]
theorem sp_st_3 (St : List Int32) : sp_ex a b c [10002] St = c :: St := by
  show sp_st a b c 10002 St = _
  unfold sp_st
  rw [if_pos (by decide), if_neg (by decide), if_neg (by decide), if_neg (by decide)]
theorem sp_st_not {l : List Int32} {x : Int32} {St : List Int32} (h : sp_ex a b c l St = x :: St) : sp_ex a b c (l ++ [20033]) St = bi (x = 0) :: St := by
  rw [sp_ex_app, h]
  show sp_st a b c 20033 (x :: St) = _
  unfold sp_st
  rw [if_neg (by decide), if_pos rfl]
theorem sp_st_join {l m : List Int32} {x z : Int32} {St : List Int32} {s : Nat} (hs : s < 256) (h33 : s ≠ 33) (h : sp_ex a b c l St = x :: St) (h' : sp_ex a b c m (x :: St) = z :: x :: St) : sp_ex a b c (l ++ m ++ [20000 + nI s]) St = sp_jn (nI s) x z :: St := by
  rw [sp_ex_app, sp_ex_app, h, h']
  show sp_st a b c (nI 20000 + nI s) (z :: x :: St) = _
  rw [nI_add]
  unfold sp_st
  rw [if_neg (show ¬ nI (20000 + s) < (20000 : Int32) from fun w => absurd ((nI_ltI (a := 20000 + s) (b := 20000) (by omega) (by decide)).mp w) (by omega)), if_neg (show ¬ nI (20000 + s) = (20033 : Int32) from fun w => absurd ((nI_eq (a := 20000 + s) (b := 20033) (by omega) (by decide)).mp w) (by omega))]
  show sp_jn (nI (20000 + s) - nI 20000) x z :: St = _
  rw [pk_sub (by omega), show 20000 + s - 20000 = s by omega]
theorem sp_pr_5 (by_ : Nat → Int32) (n0 n1 n2 : Int32) (f op k : Nat) : sp_pr by_ n0 n1 n2 (f + 1) 5 op k = if sp_dg (by_ k) = true then (true, (sp_nu by_ 4 k 0).1, [(sp_nu by_ 4 k 0).2])
    else if by_ k = n0 then (true, k + 1, [10000])
    else if by_ k = n1 then (true, k + 1, [10001])
    else if by_ k = n2 then (true, k + 1, [10002])
    else if by_ k = 33 ∧ op < 5 then ((sp_pr by_ n0 n1 n2 f 5 (op + 1) (k + 1)).1, (sp_pr by_ n0 n1 n2 f 5 (op + 1) (k + 1)).2.1, (sp_pr by_ n0 n1 n2 f 5 (op + 1) (k + 1)).2.2 ++ [20033])
    else if by_ k = 40 ∧ op < 5 then
      (if (sp_pr by_ n0 n1 n2 f 0 (op + 1) (k + 1)).1 = true ∧ by_ (sp_pr by_ n0 n1 n2 f 0 (op + 1) (k + 1)).2.1 = 41 then (true, (sp_pr by_ n0 n1 n2 f 0 (op + 1) (k + 1)).2.1 + 1, (sp_pr by_ n0 n1 n2 f 0 (op + 1) (k + 1)).2.2)
      else (false, (sp_pr by_ n0 n1 n2 f 0 (op + 1) (k + 1)).2.1, (sp_pr by_ n0 n1 n2 f 0 (op + 1) (k + 1)).2.2))
    else (false, k, []) := by
  rw [sp_pr]
  exact if_neg (by decide)
theorem m_factor (C : ps_C S q u n a b c) {d f op k : Nat} (hd : 3 ≤ d) (hop : op ≤ 5) (hk : k ≤ n) (ih5 : op < 5 → k + 1 ≤ n → ps_T S q u n a b c d y_Mo_factor f 5 (op + 1) (k + 1)) (ih0 : op < 5 → k + 1 ≤ n → ps_T S q u n a b c d y_Mo_whole f 0 (op + 1) (k + 1)) : ps_T S q u n a b c (d + 1) y_Mo_factor (f + 1) 5 op k := by
  intro Q K
  have hn := C.1.2
  have key : ∀ r : sp_P, ps_p q u n (f + 1) 5 op k = r → ∀ v, (r.1 = true → ∀ St, sp_ex a b c r.2.2 St = v :: St) → Q (some (.int v)) (ps S r.2.1 op r.1) := by
    intro r hr
    subst hr
    exact K
  clear K
  have L16 : sp_dg (ps_b q u n k) = true → wp d y_Mo_factor 16 [some (.ref 91), some (.int (ps_b q u n k)), none] [] (ps S k op true) Q := by
    intro h13
    refine wp_aload_n d_Mo_factor_16 rfl rfl ?_
    refine wp_invV d_Mo_factor_17 ow_Mo_factor lk_8_165 (by decide) mi_Mo_number rfl rfl (Nat.le_of_ble_eq_true rfl) rfl (wp_isC (O_91 _)) (Nat.le_trans (show h_Mo_number ≤ 3 from by decide) hd) (m_number C (Nat.le_refl 2) op k hk ?_)
    refine wp_Ki ?_
    refine wp_reti d_Mo_factor_20 rt_Mo_factor ?_
    refine key _ ((sp_pr_5 _ _ _ _ f op k).trans (if_pos h13)) _ (fun _ St => ?_)
    obtain ⟨m, h1, h2⟩ := sp_nu_bd (ps_b q u n) 4 k 0 1 (by decide)
    rw [nI_0] at h2
    rw [h2]
    exact sp_st_n m (by omega) St
  have R38 : ∀ v S', Q (some (.int v)) S' → wp d y_Mo_factor 38 [some (.ref 91), some (.int (ps_b q u n k)), none] [.int v] S' Q := by
    intro v S' h
    refine wp_reti d_Mo_factor_38 rt_Mo_factor ?_
    exact h
  have L33 : ¬ sp_dg (ps_b q u n k) = true → ps_b q u n k ≠ 33 → ps_b q u n k ≠ 40 → wp d y_Mo_factor 33 [some (.ref 91), some (.int (ps_b q u n k)), none] [] (ps S k op true) Q := by
    intro h13 h22 h28
    refine wp_aload_n d_Mo_factor_33 rfl rfl ?_
    refine wp_iload_n d_Mo_factor_34 rfl rfl ?_
    refine wp_invV d_Mo_factor_35 ow_Mo_factor lk_8_168 (by decide) mi_Mo_named rfl rfl (Nat.le_of_ble_eq_true rfl) rfl (wp_isC (O_91 _)) (Nat.le_trans (show h_Mo_named ≤ 3 from by decide) hd) (m_named C (Nat.le_refl 1) _ op k hk ?_)
    split
    · rename_i g1
      exact wp_Ki (R38 _ _ (key _ ((sp_pr_5 _ _ _ _ f op k).trans ((if_neg h13).trans (if_pos g1))) _ (fun _ St => sp_st_1 St)))
    · rename_i g1
      split
      · rename_i g2
        exact wp_Ki (R38 _ _ (key _ ((sp_pr_5 _ _ _ _ f op k).trans ((if_neg h13).trans ((if_neg g1).trans (if_pos g2)))) _ (fun _ St => sp_st_2 St)))
      · rename_i g2
        split
        · rename_i g3
          exact wp_Ki (R38 _ _ (key _ ((sp_pr_5 _ _ _ _ f op k).trans ((if_neg h13).trans ((if_neg g1).trans ((if_neg g2).trans (if_pos g3))))) _ (fun _ St => sp_st_3 St)))
        · rename_i g3
          exact wp_Ki (R38 _ _ (key _ ((sp_pr_5 _ _ _ _ f op k).trans ((if_neg h13).trans ((if_neg g1).trans ((if_neg g2).trans ((if_neg g3).trans ((if_neg (fun z => h22 z.1)).trans (if_neg (fun z => h28 z.1)))))))) _ (fun z => by cases z)))
  have hnm : ∀ x : Int32, x = 33 ∨ x = 40 → x ≠ sp_n0 u ∧ x ≠ sp_n1 u ∧ x ≠ sp_n2 u := by
    intro x hx
    unfold sp_n0 sp_n1 sp_n2
    rcases hx with rfl | rfl <;> split <;> decide
  have L78 : op < 5 → ¬ sp_dg (ps_b q u n k) = true → ps_b q u n k = 33 → wp d y_Mo_factor 78 [some (.ref 91), some (.int (ps_b q u n k)), none] [] (ps S (k + 1) (op + 1) true) Q := by
    intro h5 h13 h33
    obtain ⟨e1, e2, e3⟩ := hnm _ (Or.inl h33)
    have E := (sp_pr_5 _ _ _ _ f op k).trans ((if_neg h13).trans ((if_neg e1).trans ((if_neg e2).trans ((if_neg e3).trans (if_pos ⟨h33, h5⟩)))))
    refine wp_aload_n d_Mo_factor_78 rfl rfl ?_
    refine wp_invV d_Mo_factor_79 ow_Mo_factor lk_8_174 (by decide) mi_Mo_factor rfl rfl (Nat.le_of_ble_eq_true rfl) rfl (wp_isC (O_91 _)) (Nat.le_refl _) (ih5 h5 (ps_b_lt h33 (by decide)) _ (fun w hw => ?_))
    refine wp_Ki ?_
    refine wp_goto (pc' := 89) d_Mo_factor_82 (by decide) ?_
    refine wp_iston2 d_Mo_factor_89 rfl ?_
    refine wp_aload_n d_Mo_factor_90 rfl rfl ?_
    refine wp_dup d_Mo_factor_91 rfl ?_
    refine wp_getI d_Mo_factor_92 ow_Mo_factor fl_8_171 (O_91 _) rfl (rfl) ?_
    refine wp_iconst (x := nI 1) d_Mo_factor_95 rfl ?_
    refine wp_isub d_Mo_factor_96 (nI_pred _) ?_
    refine wp_put (ty := .int) d_Mo_factor_97 ow_Mo_factor fl_8_171 (by decide +kernel) (by decide +kernel) (O_91 _) rfl ⟨rfl, rfl⟩ ?_
    refine wp_eqS (ps_op _ _ _ _ _) ?_
    refine wp_iload_n d_Mo_factor_100 rfl rfl ?_
    refine wp_bipush (x := nI 33) d_Mo_factor_101 (by decide) ?_
    refine wp_ic_ne (pc' := 116) d_Mo_factor_103 (by decide) (fun h103 => absurd h33 h103) (fun h103 => ?_)
    refine wp_iload_n d_Mo_factor_106 rfl rfl ?_
    refine wp_if_ne (pc' := 114) d_Mo_factor_107 (by decide) (fun h107 => ?_) (fun h107 => ?_)
    · refine wp_iconst (x := nI 0) d_Mo_factor_114 rfl ?_
      refine wp_reti d_Mo_factor_115 rt_Mo_factor ?_
      refine key _ E _ (fun z St => ?_)
      rw [sp_st_not (hw z St), bi_f h107]
      rfl
    · refine wp_iconst (x := nI 1) d_Mo_factor_110 rfl ?_
      refine wp_goto (pc' := 115) d_Mo_factor_111 (by decide) ?_
      refine wp_reti d_Mo_factor_115 rt_Mo_factor ?_
      refine key _ E _ (fun z St => ?_)
      rw [sp_st_not (hw z St), bi_t h107]
      rfl
  have L85 : op < 5 → ¬ sp_dg (ps_b q u n k) = true → ps_b q u n k = 40 → wp d y_Mo_factor 85 [some (.ref 91), some (.int (ps_b q u n k)), none] [] (ps S (k + 1) (op + 1) true) Q := by
    intro h5 h13 h40
    obtain ⟨e1, e2, e3⟩ := hnm _ (Or.inr h40)
    have hlt := ps_b_lt h40 (by decide)
    have hle := (sp_pr_le (q := q) (u := u) f 0 (op + 1) (k + 1) hlt).2.1
    have E := (sp_pr_5 _ _ _ _ f op k).trans ((if_neg h13).trans ((if_neg e1).trans ((if_neg e2).trans ((if_neg e3).trans ((if_neg (fun z => absurd (h40.symm.trans z.1) (by decide))).trans (if_pos ⟨h40, h5⟩))))))
    refine wp_aload_n d_Mo_factor_85 rfl rfl ?_
    refine wp_invV d_Mo_factor_86 ow_Mo_factor lk_8_177 (by decide) mi_Mo_whole rfl rfl (Nat.le_of_ble_eq_true rfl) rfl (wp_isC (O_91 _)) (Nat.le_refl _) (ih0 h5 hlt _ (fun w hw => ?_))
    refine wp_Ki ?_
    refine wp_iston2 d_Mo_factor_89 rfl ?_
    refine wp_aload_n d_Mo_factor_90 rfl rfl ?_
    refine wp_dup d_Mo_factor_91 rfl ?_
    refine wp_getI d_Mo_factor_92 ow_Mo_factor fl_8_171 (O_91 _) rfl (rfl) ?_
    refine wp_iconst (x := nI 1) d_Mo_factor_95 rfl ?_
    refine wp_isub d_Mo_factor_96 (nI_pred _) ?_
    refine wp_put (ty := .int) d_Mo_factor_97 ow_Mo_factor fl_8_171 (by decide +kernel) (by decide +kernel) (O_91 _) rfl ⟨rfl, rfl⟩ ?_
    refine wp_eqS (ps_op _ _ _ _ _) ?_
    refine wp_iload_n d_Mo_factor_100 rfl rfl ?_
    refine wp_bipush (x := nI 33) d_Mo_factor_101 (by decide) ?_
    refine wp_ic_ne (pc' := 116) d_Mo_factor_103 (by decide) (fun h103 => ?_) (fun h103 => absurd (h40.symm.trans h103) (by decide))
    refine wp_aload_n d_Mo_factor_116 rfl rfl ?_
    refine wp_getI d_Mo_factor_117 ow_Mo_factor fl_8_139 (O_91 _) rfl (rfl) ?_
    refine wp_ifB_eq (pc' := 148) d_Mo_factor_120 (by decide) (fun h120 => ?_) (fun h120 => ?_)
    · refine wp_aload_n d_Mo_factor_148 rfl rfl ?_
      refine wp_invV d_Mo_factor_149 ow_Mo_factor lk_8_152 (by decide) mi_Mo_fails rfl rfl (Nat.le_of_ble_eq_true rfl) rfl (wp_isC (O_91 _)) (Nat.le_trans (show h_Mo_fails ≤ 3 from by decide) hd) (m_fails _ _ _ ?_)
      refine wp_Ki ?_
      refine wp_reti d_Mo_factor_152 rt_Mo_factor ?_
      exact key _ (E.trans (if_neg (fun z => h120 z.1))) _ (fun z => by cases z)
    · refine wp_aload_n d_Mo_factor_123 rfl rfl ?_
      refine wp_aload_n d_Mo_factor_124 rfl rfl ?_
      refine wp_getI d_Mo_factor_125 ow_Mo_factor fl_8_143 (O_91 _) rfl (rfl) ?_
      refine wp_invV d_Mo_factor_128 ow_Mo_factor lk_8_146 (by decide) mi_Mo_byteAt rfl rfl (Nat.le_of_ble_eq_true rfl) rfl (wp_isC (O_91 _)) (Nat.le_trans (show h_Mo_byteAt ≤ 3 from by decide) hd) (m_byteAt C _ _ _ _ (by dsimp only [ps_p] at *; omega) ?_)
      refine wp_Ki ?_
      refine wp_bipush (x := nI 41) d_Mo_factor_131 (by decide) ?_
      refine wp_ic_ne (pc' := 148) d_Mo_factor_133 (by decide) (fun h133 => ?_) (fun h133 => ?_)
      · refine wp_aload_n d_Mo_factor_148 rfl rfl ?_
        refine wp_invV d_Mo_factor_149 ow_Mo_factor lk_8_152 (by decide) mi_Mo_fails rfl rfl (Nat.le_of_ble_eq_true rfl) rfl (wp_isC (O_91 _)) (Nat.le_trans (show h_Mo_fails ≤ 3 from by decide) hd) (m_fails _ _ _ ?_)
        refine wp_Ki ?_
        refine wp_reti d_Mo_factor_152 rt_Mo_factor ?_
        exact key _ (E.trans (if_neg (fun z => h133 z.2))) _ (fun z => by cases z)
      · refine wp_aload_n d_Mo_factor_136 rfl rfl ?_
        refine wp_dup d_Mo_factor_137 rfl ?_
        refine wp_getI d_Mo_factor_138 ow_Mo_factor fl_8_143 (O_91 _) rfl (rfl) ?_
        refine wp_iconst (x := nI 1) d_Mo_factor_141 rfl ?_
        refine wp_iadd d_Mo_factor_142 (nI_add _ _) ?_
        refine wp_put (ty := .int) d_Mo_factor_143 ow_Mo_factor fl_8_143 (by decide +kernel) (by decide +kernel) (O_91 _) rfl ⟨rfl, rfl⟩ ?_
        refine wp_eqS (ps_at _ _ _ _ _) ?_
        refine wp_iload_n d_Mo_factor_146 rfl rfl ?_
        refine wp_reti d_Mo_factor_147 rt_Mo_factor ?_
        rw [h120]
        exact key _ (E.trans (if_pos ⟨h120, h133⟩)) _ (fun _ St => hw h120 St)
  refine cl_in ml_Mo_factor rfl rfl ?_
  refine wp_aload_n d_Mo_factor_0 rfl rfl ?_
  refine wp_aload_n d_Mo_factor_1 rfl rfl ?_
  refine wp_getI d_Mo_factor_2 ow_Mo_factor fl_8_143 (O_91 _) rfl (rfl) ?_
  refine wp_invV d_Mo_factor_5 ow_Mo_factor lk_8_146 (by decide) mi_Mo_byteAt rfl rfl (Nat.le_of_ble_eq_true rfl) rfl (wp_isC (O_91 _)) (Nat.le_trans (show h_Mo_byteAt ≤ 3 from by decide) hd) (m_byteAt C _ _ _ _ (by omega) ?_)
  refine wp_Ki ?_
  refine wp_iston1 d_Mo_factor_8 rfl ?_
  refine wp_iload_n d_Mo_factor_9 rfl rfl ?_
  refine wp_invS d_Mo_factor_10 ow_Mo_factor lk_8_149 (by decide) mi_Mo_isDigit rfl rfl (Nat.le_of_ble_eq_true rfl) rfl (Nat.le_trans (show h_Mo_isDigit ≤ 3 from by decide) hd) (m_isDigit _ ?_)
  refine wp_Ki ?_
  refine wp_ifB_eq (pc' := 21) d_Mo_factor_13 (by decide) (fun h13 => ?_) (fun h13 => ?_)
  · refine wp_iload_n d_Mo_factor_21 rfl rfl ?_
    refine wp_bipush (x := nI 33) d_Mo_factor_22 (by decide) ?_
    refine wp_ic_eq (pc' := 39) d_Mo_factor_24 (by decide) (fun h24 => ?_) (fun h24 => ?_)
    · refine wp_aload_n d_Mo_factor_39 rfl rfl ?_
      refine wp_getI d_Mo_factor_40 ow_Mo_factor fl_8_171 (O_91 _) rfl (rfl) ?_
      refine wp_iconst (x := nI 5) d_Mo_factor_43 rfl ?_
      refine wp_icN_ne (pc' := 52) d_Mo_factor_44 (by decide) (by omega) (by omega) (fun h44 => ?_) (fun h44 => ?_)
      · refine wp_aload_n d_Mo_factor_52 rfl rfl ?_
        refine wp_dup d_Mo_factor_53 rfl ?_
        refine wp_getI d_Mo_factor_54 ow_Mo_factor fl_8_171 (O_91 _) rfl (rfl) ?_
        refine wp_iconst (x := nI 1) d_Mo_factor_57 rfl ?_
        refine wp_iadd d_Mo_factor_58 (nI_add _ _) ?_
        refine wp_put (ty := .int) d_Mo_factor_59 ow_Mo_factor fl_8_171 (by decide +kernel) (by decide +kernel) (O_91 _) rfl ⟨rfl, rfl⟩ ?_
        refine wp_eqS (ps_op _ _ _ _ _) ?_
        refine wp_aload_n d_Mo_factor_62 rfl rfl ?_
        refine wp_dup d_Mo_factor_63 rfl ?_
        refine wp_getI d_Mo_factor_64 ow_Mo_factor fl_8_143 (O_91 _) rfl (rfl) ?_
        refine wp_iconst (x := nI 1) d_Mo_factor_67 rfl ?_
        refine wp_iadd d_Mo_factor_68 (nI_add _ _) ?_
        refine wp_put (ty := .int) d_Mo_factor_69 ow_Mo_factor fl_8_143 (by decide +kernel) (by decide +kernel) (O_91 _) rfl ⟨rfl, rfl⟩ ?_
        refine wp_eqS (ps_at _ _ _ _ _) ?_
        refine wp_iload_n d_Mo_factor_72 rfl rfl ?_
        refine wp_bipush (x := nI 33) d_Mo_factor_73 (by decide) ?_
        refine wp_ic_ne (pc' := 85) d_Mo_factor_75 (by decide) (fun h75 => ?_) (fun h75 => ?_)
        · first
          | exact absurd h24 h75
          | exact L85 (by omega) h13 h30
        · first
          | exact L78 (by omega) h13 h75
          | exact absurd (h30.symm.trans h75) (by decide)
      · refine wp_aload_n d_Mo_factor_47 rfl rfl ?_
        refine wp_invV d_Mo_factor_48 ow_Mo_factor lk_8_152 (by decide) mi_Mo_fails rfl rfl (Nat.le_of_ble_eq_true rfl) rfl (wp_isC (O_91 _)) (Nat.le_trans (show h_Mo_fails ≤ 3 from by decide) hd) (m_fails _ _ _ ?_)
        refine wp_Ki ?_
        refine wp_reti d_Mo_factor_51 rt_Mo_factor ?_
        obtain ⟨e1, e2, e3⟩ := hnm _ (Or.inl h24)
        exact key _ ((sp_pr_5 _ _ _ _ f op k).trans ((if_neg h13).trans ((if_neg e1).trans ((if_neg e2).trans ((if_neg e3).trans ((if_neg (fun z => by omega)).trans (if_neg (fun z => by omega)))))))) _ (fun z => by cases z)
    · refine wp_iload_n d_Mo_factor_27 rfl rfl ?_
      refine wp_bipush (x := nI 40) d_Mo_factor_28 (by decide) ?_
      refine wp_ic_eq (pc' := 39) d_Mo_factor_30 (by decide) (fun h30 => ?_) (fun h30 => ?_)
      · refine wp_aload_n d_Mo_factor_39 rfl rfl ?_
        refine wp_getI d_Mo_factor_40 ow_Mo_factor fl_8_171 (O_91 _) rfl (rfl) ?_
        refine wp_iconst (x := nI 5) d_Mo_factor_43 rfl ?_
        refine wp_icN_ne (pc' := 52) d_Mo_factor_44 (by decide) (by omega) (by omega) (fun h44 => ?_) (fun h44 => ?_)
        · refine wp_aload_n d_Mo_factor_52 rfl rfl ?_
          refine wp_dup d_Mo_factor_53 rfl ?_
          refine wp_getI d_Mo_factor_54 ow_Mo_factor fl_8_171 (O_91 _) rfl (rfl) ?_
          refine wp_iconst (x := nI 1) d_Mo_factor_57 rfl ?_
          refine wp_iadd d_Mo_factor_58 (nI_add _ _) ?_
          refine wp_put (ty := .int) d_Mo_factor_59 ow_Mo_factor fl_8_171 (by decide +kernel) (by decide +kernel) (O_91 _) rfl ⟨rfl, rfl⟩ ?_
          refine wp_eqS (ps_op _ _ _ _ _) ?_
          refine wp_aload_n d_Mo_factor_62 rfl rfl ?_
          refine wp_dup d_Mo_factor_63 rfl ?_
          refine wp_getI d_Mo_factor_64 ow_Mo_factor fl_8_143 (O_91 _) rfl (rfl) ?_
          refine wp_iconst (x := nI 1) d_Mo_factor_67 rfl ?_
          refine wp_iadd d_Mo_factor_68 (nI_add _ _) ?_
          refine wp_put (ty := .int) d_Mo_factor_69 ow_Mo_factor fl_8_143 (by decide +kernel) (by decide +kernel) (O_91 _) rfl ⟨rfl, rfl⟩ ?_
          refine wp_eqS (ps_at _ _ _ _ _) ?_
          refine wp_iload_n d_Mo_factor_72 rfl rfl ?_
          refine wp_bipush (x := nI 33) d_Mo_factor_73 (by decide) ?_
          refine wp_ic_ne (pc' := 85) d_Mo_factor_75 (by decide) (fun h75 => ?_) (fun h75 => ?_)
          · first
            | exact absurd h24 h75
            | exact L85 (by omega) h13 h30
          · first
            | exact L78 (by omega) h13 h75
            | exact absurd (h30.symm.trans h75) (by decide)
        · refine wp_aload_n d_Mo_factor_47 rfl rfl ?_
          refine wp_invV d_Mo_factor_48 ow_Mo_factor lk_8_152 (by decide) mi_Mo_fails rfl rfl (Nat.le_of_ble_eq_true rfl) rfl (wp_isC (O_91 _)) (Nat.le_trans (show h_Mo_fails ≤ 3 from by decide) hd) (m_fails _ _ _ ?_)
          refine wp_Ki ?_
          refine wp_reti d_Mo_factor_51 rt_Mo_factor ?_
          obtain ⟨e1, e2, e3⟩ := hnm _ (Or.inr h30)
          exact key _ ((sp_pr_5 _ _ _ _ f op k).trans ((if_neg h13).trans ((if_neg e1).trans ((if_neg e2).trans ((if_neg e3).trans ((if_neg (fun z => h24 z.1)).trans (if_neg (fun z => by omega)))))))) _ (fun z => by cases z)
      · exact L33 h13 h24 h30
  · exact L16 h13
end PV
