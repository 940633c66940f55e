/-! the reference: laws, whose a field is, its rent -/
section LW
variable {S : wp_S} {q : sp_R} {u n : Nat} {a b c : Int32} {Q : Option Value → wp_S → Prop}
def ps_y (lv : Nat) : Nat := if lv = 0 then y_Mo_whole else if lv = 1 then y_Mo_both else if lv = 2 then y_Mo_compared else if lv = 3 then y_Mo_sum else if lv = 4 then y_Mo_product else y_Mo_factor
theorem m_pr (C : ps_C S q u n a b c) : ∀ f lv op k, lv ≤ 5 → op ≤ 5 → k ≤ n → (5 - op) * 6 + (6 - lv) ≤ f → ps_T S q u n a b c (f + 3) (ps_y lv) f lv op k := by
  intro f
  induction f with
  | zero => exact fun lv op k h1 h2 h3 h4 => by omega
  | succ f ih =>
    intro lv op k h1 h2 h3 h4
    rcases (show lv = 0 ∨ lv = 1 ∨ lv = 2 ∨ lv = 3 ∨ lv = 4 ∨ lv = 5 by omega) with rfl | rfl | rfl | rfl | rfl | rfl
    · exact m_whole C (by omega) h3 (fun k hk => ih 1 op k (by omega) h2 hk (by omega))
    · exact m_both C (by omega) h3 (fun k hk => ih 2 op k (by omega) h2 hk (by omega))
    · exact m_compared C (by omega) h3 (fun k hk => ih 3 op k (by omega) h2 hk (by omega))
    · exact m_sum C (by omega) h3 (fun k hk => ih 4 op k (by omega) h2 hk (by omega))
    · exact m_product C (by omega) h3 (fun k hk => ih 5 op k (by omega) h2 hk (by omega))
    · exact m_factor C (by omega) h2 h3 (fun h5 hk => ih 5 (op + 1) (k + 1) (by omega) (by omega) hk (by omega)) (fun h5 hk => ih 0 (op + 1) (k + 1) (by omega) (by omega) hk (by omega))
/-- what a reading leaves -/
def pw (S : wp_S) (u n : Nat) (a b c : Int32) (k : Nat) (g : Bool) : wp_S := (S.1, fun e j => if e = 91 then (if j = 9 then nI u else if j = 10 then nI k else if j = 11 then nI n else if j = 12 then nI 0 else if j = 13 then a else if j = 14 then b else if j = 15 then c else if j = 16 then bi (g = true) else S.2 91 j) else S.2 e j)
theorem pw_in : wp_u (wp_u (wp_u (wp_u (wp_u (wp_u (wp_u (wp_u S 91 9 (nI u)) 91 10 (nI 0)) 91 11 (nI n)) 91 12 (nI 0)) 91 16 (nI 1)) 91 13 a) 91 14 b) 91 15 c = ps (pw S u n a b c 0 true) 0 0 true := by
  refine Prod.ext rfl (funext fun e => funext fun j => ?_)
  simp only [wp_u2, ps, pw]
  by_cases h : e = 91
  · subst h
    simp only [true_and, if_true]
    by_cases h9 : j = 9
    · subst h9; rfl
    by_cases h10 : j = 10
    · subst h10; rfl
    by_cases h11 : j = 11
    · subst h11; rfl
    by_cases h12 : j = 12
    · subst h12; rfl
    by_cases h13 : j = 13
    · subst h13; rfl
    by_cases h14 : j = 14
    · subst h14; rfl
    by_cases h15 : j = 15
    · subst h15; rfl
    by_cases h16 : j = 16
    · subst h16; rfl
    simp only [h9, h10, h11, h12, h13, h14, h15, h16, if_false]
  · simp only [h, false_and, if_false]
theorem pw_out (k : Nat) (g g' : Bool) : wp_u (ps (pw S u n a b c 0 true) k 0 g) 91 16 (bi (g' = true)) = pw S u n a b c k g' := by
  refine Prod.ext rfl (funext fun e => funext fun j => ?_)
  simp only [wp_u2, ps, pw]
  by_cases h : e = 91
  · subst h
    simp only [true_and, if_true]
    by_cases h9 : j = 9
    · subst h9; rfl
    by_cases h10 : j = 10
    · subst h10; rfl
    by_cases h11 : j = 11
    · subst h11; rfl
    by_cases h12 : j = 12
    · subst h12; rfl
    by_cases h13 : j = 13
    · subst h13; rfl
    by_cases h14 : j = 14
    · subst h14; rfl
    by_cases h15 : j = 15
    · subst h15; rfl
    by_cases h16 : j = 16
    · subst h16; rfl
    simp only [h9, h10, h11, h12, h13, h14, h15, h16, if_false]
  · simp only [h, false_and, if_false]
/-- the reader's own room -/
def ps_D (k j : Nat) : Prop := k = 91 ∧ 9 ≤ j ∧ j ≤ 16
theorem pw_fr (k : Nat) (g : Bool) : fr ps_D S (pw S u n a b c k g) := ⟨rfl, fun e j h => by
  unfold ps_D at h
  simp only [pw]
  by_cases h1 : e = 91
  · subst h1
    rw [if_pos rfl, if_neg (by omega), if_neg (by omega), if_neg (by omega), if_neg (by omega), if_neg (by omega), if_neg (by omega), if_neg (by omega), if_neg (by omega)]
  · rw [if_neg h1]⟩
theorem m_walks (hq : S.2 92 = q) (hu : u < 2) (hn : n ≤ 50) (hz : q (6 + u) = nI n) (K : ∀ v, ((sp_ps (sp_tx q u) n u).1 = true → ∀ St, sp_ex a b c (sp_ps (sp_tx q u) n u).2.2 St = v :: St) → Q (some (.int v)) (pw S u n a b c (sp_ps (sp_tx q u) n u).2.1 (decide ((sp_ps (sp_tx q u) n u).1 = true ∧ (sp_ps (sp_tx q u) n u).2.1 = n)))) : cl h_Mo_walks y_Mo_walks [.ref k_Mo, .int (nI u), .int a, .int b, .int c] S Q := by
  have C : ps_C (pw S u n a b c 0 true) q u n a b c := ⟨⟨hu, hn⟩, (funext fun j => (rfl : (pw S u n a b c 0 true).2 92 j = S.2 92 j)).trans hq, rfl, rfl, rfl, rfl, rfl⟩
  have hle := (sp_pr_le (q := q) (u := u) (n := n) 42 0 0 0 (Nat.zero_le _)).2.1
  refine cl_in ml_Mo_walks rfl rfl ?_
  refine wp_aload_n d_Mo_walks_0 rfl rfl ?_
  refine wp_iload_n d_Mo_walks_1 rfl rfl ?_
  refine wp_put (ty := .int) d_Mo_walks_2 ow_Mo_walks fl_8_136 (by decide +kernel) (by decide +kernel) (O_91 _) rfl ⟨rfl, rfl⟩ ?_
  refine wp_aload_n d_Mo_walks_5 rfl rfl ?_
  refine wp_iconst (x := nI 0) d_Mo_walks_6 rfl ?_
  refine wp_put (ty := .int) d_Mo_walks_7 ow_Mo_walks fl_8_143 (by decide +kernel) (by decide +kernel) (O_91 _) rfl ⟨rfl, rfl⟩ ?_
  refine wp_aload_n d_Mo_walks_10 rfl rfl ?_
  refine wp_aload_n d_Mo_walks_11 rfl rfl ?_
  refine wp_getR d_Mo_walks_12 ow_Mo_walks fl_8_7 (O_91 _) rfl ?_
  refine wp_bipush (x := nI 6) d_Mo_walks_15 (by decide) ?_
  refine wp_iload_n d_Mo_walks_17 rfl rfl ?_
  refine wp_iadd d_Mo_walks_18 (nI_add _ _) ?_
  refine wp_iaload d_Mo_walks_19 (A_92 _) (by omega) (by decide) ((congrFun hq (6 + u)).trans hz) ?_
  refine wp_put (ty := .int) d_Mo_walks_20 ow_Mo_walks fl_8_133 (by decide +kernel) (by decide +kernel) (O_91 _) rfl ⟨rfl, rfl⟩ ?_
  refine wp_aload_n d_Mo_walks_23 rfl rfl ?_
  refine wp_iconst (x := nI 0) d_Mo_walks_24 rfl ?_
  refine wp_put (ty := .int) d_Mo_walks_25 ow_Mo_walks fl_8_171 (by decide +kernel) (by decide +kernel) (O_91 _) rfl ⟨rfl, rfl⟩ ?_
  refine wp_aload_n d_Mo_walks_28 rfl rfl ?_
  refine wp_iconst (x := nI 1) d_Mo_walks_29 rfl ?_
  refine wp_put (ty := .boolean) d_Mo_walks_30 ow_Mo_walks fl_8_139 (by decide +kernel) (by decide +kernel) (O_91 _) rfl ⟨rfl, rfl⟩ ?_
  refine wp_aload_n d_Mo_walks_33 rfl rfl ?_
  refine wp_iload_n d_Mo_walks_34 rfl rfl ?_
  refine wp_put (ty := .int) d_Mo_walks_35 ow_Mo_walks fl_8_156 (by decide +kernel) (by decide +kernel) (O_91 _) rfl ⟨rfl, rfl⟩ ?_
  refine wp_aload_n d_Mo_walks_38 rfl rfl ?_
  refine wp_iload_n d_Mo_walks_39 rfl rfl ?_
  refine wp_put (ty := .int) d_Mo_walks_40 ow_Mo_walks fl_8_159 (by decide +kernel) (by decide +kernel) (O_91 _) rfl ⟨rfl, rfl⟩ ?_
  refine wp_aload_n d_Mo_walks_43 rfl rfl ?_
  refine wp_iload d_Mo_walks_44 rfl ?_
  refine wp_put (ty := .int) d_Mo_walks_46 ow_Mo_walks fl_8_162 (by decide +kernel) (by decide +kernel) (O_91 _) rfl ⟨rfl, rfl⟩ ?_
  refine wp_eqS (pw_in) ?_
  refine wp_aload_n d_Mo_walks_49 rfl rfl ?_
  refine wp_invV d_Mo_walks_50 ow_Mo_walks lk_8_177 (by decide) mi_Mo_whole rfl rfl (Nat.le_of_ble_eq_true rfl) rfl (wp_isC (O_91 _)) (show h_Mo_whole ≤ _ from by decide) (cl_mono (show 45 ≤ h_Mo_whole from by decide) (m_pr C 42 0 0 0 (by omega) (by omega) (Nat.zero_le _) (by omega) _ (fun w hw => ?_)))
  refine wp_Ki ?_
  refine wp_isto5 d_Mo_walks_53 rfl ?_
  refine wp_aload_n d_Mo_walks_55 rfl rfl ?_
  refine wp_aload_n d_Mo_walks_56 rfl rfl ?_
  refine wp_getI d_Mo_walks_57 ow_Mo_walks fl_8_139 (O_91 _) rfl (rfl) ?_
  refine wp_ifB_eq (pc' := 78) d_Mo_walks_60 (by decide) (fun h60 => ?_) (fun h60 => ?_)
  · refine wp_iconst (x := nI 0) d_Mo_walks_78 rfl ?_
    refine wp_put (ty := .boolean) d_Mo_walks_79 ow_Mo_walks fl_8_139 (by decide +kernel) (by decide +kernel) (O_91 _) rfl ⟨rfl, rfl⟩ ?_
    refine wp_eqS ((show wp_u _ 91 16 _ = _ from by first | exact (congrArg (wp_u _ 91 16) (show nI 0 = bi (false = true) from rfl)).trans (pw_out _ _ false) | exact (congrArg (wp_u _ 91 16) (show nI 1 = bi (true = true) from rfl)).trans (pw_out _ _ true))) ?_
    refine wp_iload d_Mo_walks_82 rfl ?_
    refine wp_reti d_Mo_walks_84 rt_Mo_walks ?_
    refine lf_s (congrArg (pw S u n a b c _) ?_) (K w hw)
    exact (decide_eq_false (fun z => h60 z.1)).symm
  · refine wp_aload_n d_Mo_walks_63 rfl rfl ?_
    refine wp_getI d_Mo_walks_64 ow_Mo_walks fl_8_143 (O_91 _) rfl (rfl) ?_
    refine wp_aload_n d_Mo_walks_67 rfl rfl ?_
    refine wp_getI d_Mo_walks_68 ow_Mo_walks fl_8_133 (O_91 _) rfl (rfl) ?_
    refine wp_icN_ne (pc' := 78) d_Mo_walks_71 (by decide) (by omega) (by omega) (fun h71 => ?_) (fun h71 => ?_)
    · refine wp_iconst (x := nI 0) d_Mo_walks_78 rfl ?_
      refine wp_put (ty := .boolean) d_Mo_walks_79 ow_Mo_walks fl_8_139 (by decide +kernel) (by decide +kernel) (O_91 _) rfl ⟨rfl, rfl⟩ ?_
      refine wp_eqS ((show wp_u _ 91 16 _ = _ from by first | exact (congrArg (wp_u _ 91 16) (show nI 0 = bi (false = true) from rfl)).trans (pw_out _ _ false) | exact (congrArg (wp_u _ 91 16) (show nI 1 = bi (true = true) from rfl)).trans (pw_out _ _ true))) ?_
      refine wp_iload d_Mo_walks_82 rfl ?_
      refine wp_reti d_Mo_walks_84 rt_Mo_walks ?_
      refine lf_s (congrArg (pw S u n a b c _) ?_) (K w hw)
      exact (decide_eq_false (fun z => h71 z.2)).symm
    · refine wp_iconst (x := nI 1) d_Mo_walks_74 rfl ?_
      refine wp_goto (pc' := 79) d_Mo_walks_75 (by decide) ?_
      refine wp_put (ty := .boolean) d_Mo_walks_79 ow_Mo_walks fl_8_139 (by decide +kernel) (by decide +kernel) (O_91 _) rfl ⟨rfl, rfl⟩ ?_
      refine wp_eqS ((show wp_u _ 91 16 _ = _ from by first | exact (congrArg (wp_u _ 91 16) (show nI 0 = bi (false = true) from rfl)).trans (pw_out _ _ false) | exact (congrArg (wp_u _ 91 16) (show nI 1 = bi (true = true) from rfl)).trans (pw_out _ _ true))) ?_
      refine wp_iload d_Mo_walks_82 rfl ?_
      refine wp_reti d_Mo_walks_84 rt_Mo_walks ?_
      refine lf_s (congrArg (pw S u n a b c _) ?_) (K w hw)
      exact (decide_eq_true ⟨h60, h71⟩).symm
theorem sp_tw_cases (h : sp_tw q u) : (q (6 + u) = -1) ∨ ∃ n, n ≤ 50 ∧ q (6 + u) = nI n ∧ (sp_ps (sp_tx q u) n u).1 = true ∧ (sp_ps (sp_tx q u) n u).2.1 = n := h
theorem m_lawOf (hq : S.2 92 = q) (hu : u < 2) (hw : sp_tw q u) (K : ∀ S', fr ps_D S S' → Q (some (.int (sp_law q u a b c))) S') : cl h_Mo_lawOf y_Mo_lawOf [.ref k_Mo, .int (nI u), .int a, .int b, .int c] S Q := by
  rcases hw with h | ⟨n, hn, hz, h1, h2⟩
  · have hl : q (6 + u) < 0 := by rw [h]; decide
    refine cl_in ml_Mo_lawOf rfl rfl ?_
    refine wp_aload_n d_Mo_lawOf_0 rfl rfl ?_
    refine wp_getR d_Mo_lawOf_1 ow_Mo_lawOf fl_8_7 (O_91 _) rfl ?_
    refine wp_bipush (x := nI 6) d_Mo_lawOf_4 (by decide) ?_
    refine wp_iload_n d_Mo_lawOf_6 rfl rfl ?_
    refine wp_iadd d_Mo_lawOf_7 (nI_add _ _) ?_
    refine wp_iaload d_Mo_lawOf_8 (A_92 _) (by omega) (by decide) (congrFun hq (6 + u)) ?_
    refine wp_if_ge (pc' := 39) d_Mo_lawOf_9 (by decide) (fun h9 => absurd hl (Int32.not_lt.mpr h9)) (fun h9 => ?_)
    refine wp_iload_n d_Mo_lawOf_12 rfl rfl ?_
    refine wp_iconst (x := nI 1) d_Mo_lawOf_13 rfl ?_
    refine wp_icN_ne (pc' := 28) d_Mo_lawOf_14 (by decide) (by omega) (by omega) (fun h14 => ?_) (fun h14 => ?_)
    · refine wp_iload_n d_Mo_lawOf_28 rfl rfl ?_
      refine wp_iconst (x := nI 2) d_Mo_lawOf_29 rfl ?_
      refine wp_ic_le (pc' := 37) d_Mo_lawOf_30 (by decide) (fun h30 => ?_) (fun h30 => ?_)
      · refine wp_iconst (x := nI 0) d_Mo_lawOf_37 rfl ?_
        refine wp_reti d_Mo_lawOf_38 rt_Mo_lawOf ?_
        refine lf_i ?_ (K _ fr.rf)
        unfold sp_law sp_raw sp_code
        have h0 : u = 0 := by omega
        subst h0
        rw [if_pos rfl, if_pos hl, if_pos rfl]
        have e := sp_st_join (a := a) (b := b) (c := c) (l := [10000]) (m := [nI 2]) (x := a) (z := nI 2) (St := []) (s := 62) (by decide) (by decide) (sp_st_1 _) (sp_st_n 2 (by decide) _)
        rw [show ([10000, 2, 20062] : List Int32) = [10000] ++ [nI 2] ++ [20000 + nI 62] from by decide, e, jn_gt]
        exact (bi_f (Int32.not_lt.mpr h30)).symm
      · refine wp_iconst (x := nI 1) d_Mo_lawOf_33 rfl ?_
        refine wp_goto (pc' := 38) d_Mo_lawOf_34 (by decide) ?_
        refine wp_reti d_Mo_lawOf_38 rt_Mo_lawOf ?_
        refine lf_i ?_ (K _ fr.rf)
        unfold sp_law sp_raw sp_code
        have h0 : u = 0 := by omega
        subst h0
        rw [if_pos rfl, if_pos hl, if_pos rfl]
        have e := sp_st_join (a := a) (b := b) (c := c) (l := [10000]) (m := [nI 2]) (x := a) (z := nI 2) (St := []) (s := 62) (by decide) (by decide) (sp_st_1 _) (sp_st_n 2 (by decide) _)
        rw [show ([10000, 2, 20062] : List Int32) = [10000] ++ [nI 2] ++ [20000 + nI 62] from by decide, e, jn_gt]
        exact (bi_t (Int32.not_le.mp h30)).symm
    · refine wp_iload_n d_Mo_lawOf_17 rfl rfl ?_
      refine wp_iconst (x := nI 0) d_Mo_lawOf_18 rfl ?_
      refine wp_sipush (x := nI 999) d_Mo_lawOf_19 (by decide) ?_
      refine wp_invS d_Mo_lawOf_22 ow_Mo_lawOf lk_8_117 (by decide) mi_Mo_held rfl rfl (Nat.le_of_ble_eq_true rfl) rfl (show h_Mo_held ≤ _ from by decide) (m_held _ _ _ ?_)
      refine wp_Ki ?_
      refine wp_goto (pc' := 38) d_Mo_lawOf_25 (by decide) ?_
      refine wp_reti d_Mo_lawOf_38 rt_Mo_lawOf ?_
      refine lf_i ?_ (K _ fr.rf)
      unfold sp_law sp_raw sp_code
      subst h14
      rw [if_neg (by decide), if_pos hl, if_neg (by decide), sp_st_1]
      rfl
  · have hl : ¬ q (6 + u) < 0 := by rw [hz]; exact nI_pos (by omega)
    have hlaw : ∀ v, ((sp_ps (sp_tx q u) n u).1 = true → ∀ St, sp_ex a b c (sp_ps (sp_tx q u) n u).2.2 St = v :: St) → sp_raw q u a b c = v := by
      intro v hv
      unfold sp_raw sp_code
      rw [if_neg hl, hz, nI_clamp (by omega), hv h1]
      rfl
    refine cl_in ml_Mo_lawOf rfl rfl ?_
    refine wp_aload_n d_Mo_lawOf_0 rfl rfl ?_
    refine wp_getR d_Mo_lawOf_1 ow_Mo_lawOf fl_8_7 (O_91 _) rfl ?_
    refine wp_bipush (x := nI 6) d_Mo_lawOf_4 (by decide) ?_
    refine wp_iload_n d_Mo_lawOf_6 rfl rfl ?_
    refine wp_iadd d_Mo_lawOf_7 (nI_add _ _) ?_
    refine wp_iaload d_Mo_lawOf_8 (A_92 _) (by omega) (by decide) (congrFun hq (6 + u)) ?_
    refine wp_if_ge (pc' := 39) d_Mo_lawOf_9 (by decide) (fun h9 => ?_) (fun h9 => absurd (Int32.not_le.mp h9) hl)
    refine wp_aload_n d_Mo_lawOf_39 rfl rfl ?_
    refine wp_iload_n d_Mo_lawOf_40 rfl rfl ?_
    refine wp_iload_n d_Mo_lawOf_41 rfl rfl ?_
    refine wp_iload_n d_Mo_lawOf_42 rfl rfl ?_
    refine wp_iload d_Mo_lawOf_43 rfl ?_
    refine wp_invV d_Mo_lawOf_45 ow_Mo_lawOf lk_8_192 (by decide) mi_Mo_walks rfl rfl (Nat.le_of_ble_eq_true rfl) rfl (wp_isC (O_91 _)) (show h_Mo_walks ≤ _ from by decide) (m_walks hq hu hn hz (fun w hw => ?_))
    refine wp_Ki ?_
    refine wp_isto5 d_Mo_lawOf_48 rfl ?_
    refine wp_iload_n d_Mo_lawOf_50 rfl rfl ?_
    refine wp_ifN_ne (pc' := 59) d_Mo_lawOf_51 (by decide) (by omega) (fun h51 => ?_) (fun h51 => ?_)
    · refine wp_iload d_Mo_lawOf_59 rfl ?_
      refine wp_iconst (x := nI 0) d_Mo_lawOf_61 rfl ?_
      refine wp_sipush (x := nI 999) d_Mo_lawOf_62 (by decide) ?_
      refine wp_invS d_Mo_lawOf_65 ow_Mo_lawOf lk_8_117 (by decide) mi_Mo_held rfl rfl (Nat.le_of_ble_eq_true rfl) rfl (show h_Mo_held ≤ _ from by decide) (m_held _ _ _ ?_)
      refine wp_Ki ?_
      refine wp_reti d_Mo_lawOf_68 rt_Mo_lawOf ?_
      refine lf_i ?_ (K _ (pw_fr _ _))
      unfold sp_law
      rw [if_neg (by omega), hlaw w hw]
      rfl
    · refine wp_iload d_Mo_lawOf_54 rfl ?_
      refine wp_goto (pc' := 68) d_Mo_lawOf_56 (by decide) ?_
      refine wp_reti d_Mo_lawOf_68 rt_Mo_lawOf ?_
      refine lf_i ?_ (K _ (pw_fr _ _))
      subst h51
      unfold sp_law
      rw [if_pos rfl, hlaw w hw]
end LW
