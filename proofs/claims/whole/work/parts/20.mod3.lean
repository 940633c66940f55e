/-! the reference: texts -/
theorem wp_eqS {d y pc : Nat} {ls : ab_L} {st : List Value} {S S' : wp_S} {Q : Option Value → wp_S → Prop} (e : S = S') (k : wp d y pc ls st S' Q) : wp d y pc ls st S Q := e ▸ k
/-- the reader's place, how many stand around, whether it is good -/
def ps (S : wp_S) (k op : Nat) (g : Bool) : wp_S := (S.1, fun c j => if c = 91 ∧ j = 10 then nI k else if c = 91 ∧ j = 12 then nI op else if c = 91 ∧ j = 16 then bi (g = true) else S.2 c j)
theorem ps_at (S : wp_S) (k k' op : Nat) (g : Bool) : wp_u (ps S k op g) 91 10 (nI k') = ps S k' op g := by
  refine Prod.ext rfl (funext fun c => funext fun j => ?_)
  simp only [wp_u2, ps]
  by_cases h1 : c = 91 ∧ j = 10
  · rw [if_pos h1, if_pos h1]
  · rw [if_neg h1, if_neg h1, if_neg h1]
theorem ps_op (S : wp_S) (k op op' : Nat) (g : Bool) : wp_u (ps S k op g) 91 12 (nI op') = ps S k op' g := by
  refine Prod.ext rfl (funext fun c => funext fun j => ?_)
  simp only [wp_u2, ps]
  by_cases h1 : c = 91 ∧ j = 12
  · rw [if_pos h1, if_neg (by omega), if_pos h1]
  · rw [if_neg h1, if_neg h1, if_neg h1]
theorem ps_gd (S : wp_S) (k op : Nat) (g : Bool) : wp_u (ps S k op g) 91 16 (nI 0) = ps S k op false := by
  refine Prod.ext rfl (funext fun c => funext fun j => ?_)
  simp only [wp_u2, ps]
  by_cases h1 : c = 91 ∧ j = 16
  · rw [if_pos h1, if_neg (by omega), if_neg (by omega), if_pos h1]; rfl
  · rw [if_neg h1, if_neg h1, if_neg h1]
def ps_C (S : wp_S) (q : sp_R) (u n : Nat) (a b c : Int32) : Prop := (u < 2 ∧ n ≤ 50) ∧ S.2 92 = q ∧ S.2 91 9 = nI u ∧ S.2 91 11 = nI n ∧ S.2 91 13 = a ∧ S.2 91 14 = b ∧ S.2 91 15 = c
abbrev ps_b (q : sp_R) (u n : Nat) : Nat → Int32 := sp_by (sp_tx q u) n
abbrev ps_p (q : sp_R) (u n f lv op k : Nat) : sp_P := sp_pr (ps_b q u n) (sp_n0 u) (sp_n1 u) (sp_n2 u) f lv op k
section PS
variable {S : wp_S} {q : sp_R} {u n : Nat} {a b c : Int32} {Q : Option Value → wp_S → Prop}
theorem ps_b_lt {k : Nat} {x : Int32} (h : ps_b q u n k = x) (hx : x ≠ -1) : k < n := by
  by_cases hk : k < n
  · exact hk
  · exact absurd (h.symm.trans (if_neg hk)) hx
theorem ps_b_dg {k : Nat} (h : sp_dg (ps_b q u n k) = true) : k < n := ps_b_lt rfl (fun z => by rw [z] at h; exact absurd h (by decide))
theorem m_byteAt (C : ps_C S q u n a b c) (k0 op : Nat) (g : Bool) (k : Nat) (hk : k < 2 ^ 31) (K : Q (some (.int (ps_b q u n k))) (ps S k0 op g)) : cl h_Mo_byteAt y_Mo_byteAt [.ref k_Mo, .int (nI k)] (ps S k0 op g) Q := by
  obtain ⟨⟨hu, hn⟩, h1, h2, h3, h4, h5, h6⟩ := C
  refine cl_in ml_Mo_byteAt rfl rfl ?_
  refine wp_iload_n d_Mo_byteAt_0 rfl rfl ?_
  refine wp_aload_n d_Mo_byteAt_1 rfl rfl ?_
  refine wp_getI d_Mo_byteAt_2 ow_Mo_byteAt fl_8_133 (O_91 _) rfl (h3) ?_
  refine wp_icN_ge (pc' := 29) d_Mo_byteAt_5 (by decide) (by omega) (by omega) (fun h5 => ?_) (fun h5 => ?_)
  · refine wp_iconst (x := -1) d_Mo_byteAt_29 rfl ?_
    refine wp_reti d_Mo_byteAt_30 rt_Mo_byteAt ?_
    exact lf_i (if_neg (by omega)).symm K
  · refine wp_aload_n d_Mo_byteAt_8 rfl rfl ?_
    refine wp_getR d_Mo_byteAt_9 ow_Mo_byteAt fl_8_7 (O_91 _) rfl ?_
    refine wp_sipush (x := nI 183) d_Mo_byteAt_12 (by decide) ?_
    refine wp_bipush (x := nI 50) d_Mo_byteAt_15 (by decide) ?_
    refine wp_aload_n d_Mo_byteAt_17 rfl rfl ?_
    refine wp_getI d_Mo_byteAt_18 ow_Mo_byteAt fl_8_136 (O_91 _) rfl (h2) ?_
    refine wp_imul d_Mo_byteAt_21 (pk_mul _ _) ?_
    refine wp_iadd d_Mo_byteAt_22 (nI_add _ _) ?_
    refine wp_iload_n d_Mo_byteAt_23 rfl rfl ?_
    refine wp_iadd d_Mo_byteAt_24 (nI_add _ _) ?_
    refine wp_iaload d_Mo_byteAt_25 (A_92 _) (by omega) (by decide) (congrFun h1 _) ?_
    refine wp_goto (pc' := 30) d_Mo_byteAt_26 (by decide) ?_
    refine wp_reti d_Mo_byteAt_30 rt_Mo_byteAt ?_
    exact lf_i (if_pos (by omega)).symm K
theorem m_isDigit (v : Int32) (k : Q (some (.int (bi (sp_dg v = true)))) S) : cl h_Mo_isDigit y_Mo_isDigit [.int v] S Q := by
  refine cl_in ml_Mo_isDigit rfl rfl ?_
  refine wp_iload_n d_Mo_isDigit_0 rfl rfl ?_
  refine wp_bipush (x := nI 48) d_Mo_isDigit_1 (by decide) ?_
  refine wp_bipush (x := nI 57) d_Mo_isDigit_3 (by decide) ?_
  refine wp_invS d_Mo_isDigit_5 ow_Mo_isDigit lk_8_54 (by decide) mi_Mo_in rfl rfl (Nat.le_of_ble_eq_true rfl) rfl (show h_Mo_in ≤ _ from by decide) (m_in _ _ _ ?_)
  refine wp_Ki ?_
  refine wp_ireturn d_Mo_isDigit_8 rt_Mo_isDigit ⟨Or.inr (Or.inl rfl), bi_nar⟩ ?_
  exact lf_i (bi_iff (by unfold sp_dg; exact decide_eq_true_iff.symm)) k
theorem m_fails (k op : Nat) (g : Bool) (K : Q (some (.int 0)) (ps S k op false)) : cl h_Mo_fails y_Mo_fails [.ref k_Mo] (ps S k op g) Q := by
  refine cl_in ml_Mo_fails rfl rfl ?_
  refine wp_aload_n d_Mo_fails_0 rfl rfl ?_
  refine wp_iconst (x := nI 0) d_Mo_fails_1 rfl ?_
  refine wp_put (ty := .boolean) d_Mo_fails_2 ow_Mo_fails fl_8_139 (by decide +kernel) (by decide +kernel) (O_91 _) rfl ⟨rfl, rfl⟩ ?_
  refine wp_eqS (ps_gd _ _ _ _) ?_
  refine wp_iconst (x := nI 0) d_Mo_fails_5 rfl ?_
  refine wp_reti d_Mo_fails_6 rt_Mo_fails ?_
  exact K
theorem m_nu_loop (C : ps_C S q u n a b c) {d : Nat} (hd : 2 ≤ d) (op : Nat) : ∀ f j k v, f + j = 4 → k ≤ n → Q (some (.int (sp_nu (ps_b q u n) f k v).2)) (ps S (sp_nu (ps_b q u n) f k v).1 op true) → wp d y_Mo_number 4 [some (.ref 91), some (.int v), some (.int (nI j))] [] (ps S k op true) Q := by
  intro f
  have hn := C.1.2
  induction f with
  | zero =>
    intro j k v hj hk K
    obtain rfl : j = 4 := by omega
    refine wp_iload_n d_Mo_number_4 rfl rfl ?_
    refine wp_iconst (x := nI 4) d_Mo_number_5 rfl ?_
    refine wp_icN_ge (pc' := 56) d_Mo_number_6 (by decide) (by omega) (by omega) (fun _ => ?_) (fun q => absurd q (by decide))
    refine wp_iload_n d_Mo_number_56 rfl rfl ?_
    refine wp_reti d_Mo_number_57 rt_Mo_number ?_
    exact K
  | succ f ih =>
    intro j k v hj hk K
    refine wp_iload_n d_Mo_number_4 rfl rfl ?_
    refine wp_iconst (x := nI 4) d_Mo_number_5 rfl ?_
    refine wp_icN_ge (pc' := 56) d_Mo_number_6 (by decide) (by omega) (by omega) (fun h6 => absurd h6 (by omega)) (fun h6 => ?_)
    refine wp_aload_n d_Mo_number_9 rfl rfl ?_
    refine wp_aload_n d_Mo_number_10 rfl rfl ?_
    refine wp_getI d_Mo_number_11 ow_Mo_number fl_8_143 (O_91 _) rfl (rfl) ?_
    refine wp_invV d_Mo_number_14 ow_Mo_number lk_8_146 (by decide) mi_Mo_byteAt rfl rfl (Nat.le_of_ble_eq_true rfl) rfl (wp_isC (O_91 _)) (Nat.le_trans (show h_Mo_byteAt ≤ 2 from by decide) hd) (m_byteAt C _ _ _ _ (by omega) ?_)
    refine wp_Ki ?_
    refine wp_invS d_Mo_number_17 ow_Mo_number lk_8_149 (by decide) mi_Mo_isDigit rfl rfl (Nat.le_of_ble_eq_true rfl) rfl (Nat.le_trans (show h_Mo_isDigit ≤ 2 from by decide) hd) (m_isDigit _ ?_)
    refine wp_Ki ?_
    refine wp_ifB_eq (pc' := 56) d_Mo_number_20 (by decide) (fun h20 => ?_) (fun h20 => ?_)
    · refine wp_iload_n d_Mo_number_56 rfl rfl ?_
      refine wp_reti d_Mo_number_57 rt_Mo_number ?_
      unfold sp_nu at K
      rw [if_neg h20] at K
      exact K
    · refine wp_bipush (x := nI 10) d_Mo_number_23 (by decide) ?_
      refine wp_iload_n d_Mo_number_25 rfl rfl ?_
      refine wp_imul d_Mo_number_26 rfl ?_
      refine wp_aload_n d_Mo_number_27 rfl rfl ?_
      refine wp_aload_n d_Mo_number_28 rfl rfl ?_
      refine wp_getI d_Mo_number_29 ow_Mo_number fl_8_143 (O_91 _) rfl (rfl) ?_
      refine wp_invV d_Mo_number_32 ow_Mo_number lk_8_146 (by decide) mi_Mo_byteAt rfl rfl (Nat.le_of_ble_eq_true rfl) rfl (wp_isC (O_91 _)) (Nat.le_trans (show h_Mo_byteAt ≤ 2 from by decide) hd) (m_byteAt C _ _ _ _ (by omega) ?_)
      refine wp_Ki ?_
      refine wp_iadd d_Mo_number_35 rfl ?_
      refine wp_bipush (x := nI 48) d_Mo_number_36 (by decide) ?_
      refine wp_isub d_Mo_number_38 rfl ?_
      refine wp_iston1 d_Mo_number_39 rfl ?_
      refine wp_aload_n d_Mo_number_40 rfl rfl ?_
      refine wp_dup d_Mo_number_41 rfl ?_
      refine wp_getI d_Mo_number_42 ow_Mo_number fl_8_143 (O_91 _) rfl (rfl) ?_
      refine wp_iconst (x := nI 1) d_Mo_number_45 rfl ?_
      refine wp_iadd d_Mo_number_46 (nI_add _ _) ?_
      refine wp_put (ty := .int) d_Mo_number_47 ow_Mo_number fl_8_143 (by decide +kernel) (by decide +kernel) (O_91 _) rfl ⟨rfl, rfl⟩ ?_
      refine wp_eqS (ps_at _ _ _ _ _) ?_
      refine wp_iinc2 d_Mo_number_50 rfl (nI_add _ 1) ?_
      refine wp_goto (pc' := 4) d_Mo_number_53 (by decide) ?_
      unfold sp_nu at K
      rw [if_pos h20] at K
      exact ih _ _ _ (by omega) (ps_b_dg h20) K
theorem m_number (C : ps_C S q u n a b c) {d : Nat} (hd : 2 ≤ d) (op k : Nat) (hk : k ≤ n) (K : Q (some (.int (sp_nu (ps_b q u n) 4 k 0).2)) (ps S (sp_nu (ps_b q u n) 4 k 0).1 op true)) : cl (d + 1) y_Mo_number [.ref k_Mo] (ps S k op true) Q := by
  refine cl_in ml_Mo_number rfl rfl ?_
  refine wp_iconst (x := nI 0) d_Mo_number_0 rfl ?_
  refine wp_iston1 d_Mo_number_1 rfl ?_
  refine wp_iconst (x := nI 0) d_Mo_number_2 rfl ?_
  refine wp_iston2 d_Mo_number_3 rfl ?_
  exact m_nu_loop C hd op 4 0 k _ rfl hk K
theorem m_named (C : ps_C S q u n a b c) {d : Nat} (hd : 1 ≤ d) (x : Int32) (op k : Nat) (hk : k ≤ n) (K : if x = sp_n0 u then Q (some (.int a)) (ps S (k + 1) op true) else if x = sp_n1 u then Q (some (.int b)) (ps S (k + 1) op true) else if x = sp_n2 u then Q (some (.int c)) (ps S (k + 1) op true) else Q (some (.int 0)) (ps S k op false)) : cl (d + 1) y_Mo_named [.ref k_Mo, .int x] (ps S k op true) Q := by
  obtain ⟨⟨hu, hn⟩, h1, h2, h3, h4, h5, h6⟩ := C
  rcases (show u = 0 ∨ u = 1 by omega) with rfl | rfl
  · rw [show sp_n0 0 = nI 110 from rfl, show sp_n1 0 = nI 116 from rfl, show sp_n2 0 = nI 102 from rfl] at K
    refine cl_in ml_Mo_named rfl rfl ?_
    refine wp_iload_n d_Mo_named_0 rfl rfl ?_
    refine wp_aload_n d_Mo_named_1 rfl rfl ?_
    refine wp_getI d_Mo_named_2 ow_Mo_named fl_8_136 (O_91 _) rfl (h2) ?_
    refine wp_ifN_ne (pc' := 13) d_Mo_named_5 (by decide) (by omega) (fun q => absurd q (by decide)) (fun _ => ?_)
    refine wp_bipush (x := nI 110) d_Mo_named_8 (by decide) ?_
    refine wp_goto (pc' := 15) d_Mo_named_10 (by decide) ?_
    refine wp_ic_ne (pc' := 22) d_Mo_named_15 (by decide) (fun h15 => ?_) (fun h15 => ?_)
    · refine wp_iconst (x := nI 0) d_Mo_named_22 rfl ?_
      refine wp_iston2 d_Mo_named_23 rfl ?_
      refine wp_iload_n d_Mo_named_24 rfl rfl ?_
      refine wp_aload_n d_Mo_named_25 rfl rfl ?_
      refine wp_getI d_Mo_named_26 ow_Mo_named fl_8_136 (O_91 _) rfl (h2) ?_
      refine wp_ifN_ne (pc' := 37) d_Mo_named_29 (by decide) (by omega) (fun q => absurd q (by decide)) (fun _ => ?_)
      refine wp_bipush (x := nI 116) d_Mo_named_32 (by decide) ?_
      refine wp_goto (pc' := 39) d_Mo_named_34 (by decide) ?_
      refine wp_ic_ne (pc' := 46) d_Mo_named_39 (by decide) (fun h39 => ?_) (fun h39 => ?_)
      · refine wp_iconst (x := nI 0) d_Mo_named_46 rfl ?_
        refine wp_iston3 d_Mo_named_47 rfl ?_
        refine wp_iload_n d_Mo_named_48 rfl rfl ?_
        refine wp_aload_n d_Mo_named_49 rfl rfl ?_
        refine wp_getI d_Mo_named_50 ow_Mo_named fl_8_136 (O_91 _) rfl (h2) ?_
        refine wp_ifN_ne (pc' := 61) d_Mo_named_53 (by decide) (by omega) (fun q => absurd q (by decide)) (fun _ => ?_)
        refine wp_bipush (x := nI 102) d_Mo_named_56 (by decide) ?_
        refine wp_goto (pc' := 63) d_Mo_named_58 (by decide) ?_
        refine wp_ic_ne (pc' := 70) d_Mo_named_63 (by decide) (fun h63 => ?_) (fun h63 => ?_)
        · refine wp_iconst (x := nI 0) d_Mo_named_70 rfl ?_
          refine wp_isto4 d_Mo_named_71 rfl ?_
          refine wp_iload_n d_Mo_named_73 rfl rfl ?_
          refine wp_ifN_ne (pc' := 91) d_Mo_named_74 (by decide) (by omega) (fun q => absurd q (by decide)) (fun _ => ?_)
          refine wp_iload_n d_Mo_named_77 rfl rfl ?_
          refine wp_ifN_ne (pc' := 91) d_Mo_named_78 (by decide) (by omega) (fun q => absurd q (by decide)) (fun _ => ?_)
          refine wp_iload d_Mo_named_81 rfl ?_
          refine wp_ifN_ne (pc' := 91) d_Mo_named_83 (by decide) (by omega) (fun q => absurd q (by decide)) (fun _ => ?_)
          refine wp_aload_n d_Mo_named_86 rfl rfl ?_
          refine wp_invV d_Mo_named_87 ow_Mo_named lk_8_152 (by decide) mi_Mo_fails rfl rfl (Nat.le_of_ble_eq_true rfl) rfl (wp_isC (O_91 _)) (Nat.le_trans (show h_Mo_fails ≤ 1 from by decide) hd) (m_fails _ _ _ ?_)
          refine wp_Ki ?_
          refine wp_reti d_Mo_named_90 rt_Mo_named ?_
          first
          | (rw [if_pos h15] at K; exact K)
          | (rw [if_neg h15, if_pos h39] at K; exact K)
          | (rw [if_neg h15, if_neg h39, if_pos h63] at K; exact K)
          | (rw [if_neg h15, if_neg h39, if_neg h63] at K; exact K)
        · refine wp_iconst (x := nI 1) d_Mo_named_66 rfl ?_
          refine wp_goto (pc' := 71) d_Mo_named_67 (by decide) ?_
          refine wp_isto4 d_Mo_named_71 rfl ?_
          refine wp_iload_n d_Mo_named_73 rfl rfl ?_
          refine wp_ifN_ne (pc' := 91) d_Mo_named_74 (by decide) (by omega) (fun q => absurd q (by decide)) (fun _ => ?_)
          refine wp_iload_n d_Mo_named_77 rfl rfl ?_
          refine wp_ifN_ne (pc' := 91) d_Mo_named_78 (by decide) (by omega) (fun q => absurd q (by decide)) (fun _ => ?_)
          refine wp_iload d_Mo_named_81 rfl ?_
          refine wp_ifN_ne (pc' := 91) d_Mo_named_83 (by decide) (by omega) (fun _ => ?_) (fun q => absurd q (by decide))
          refine wp_aload_n d_Mo_named_91 rfl rfl ?_
          refine wp_dup d_Mo_named_92 rfl ?_
          refine wp_getI d_Mo_named_93 ow_Mo_named fl_8_143 (O_91 _) rfl (rfl) ?_
          refine wp_iconst (x := nI 1) d_Mo_named_96 rfl ?_
          refine wp_iadd d_Mo_named_97 (nI_add _ _) ?_
          refine wp_put (ty := .int) d_Mo_named_98 ow_Mo_named fl_8_143 (by decide +kernel) (by decide +kernel) (O_91 _) rfl ⟨rfl, rfl⟩ ?_
          refine wp_eqS (ps_at _ _ _ _ _) ?_
          refine wp_iload_n d_Mo_named_101 rfl rfl ?_
          refine wp_ifN_eq (pc' := 112) d_Mo_named_102 (by decide) (by omega) (fun _ => ?_) (fun q => absurd q (by decide))
          refine wp_iload_n d_Mo_named_112 rfl rfl ?_
          refine wp_ifN_eq (pc' := 123) d_Mo_named_113 (by decide) (by omega) (fun _ => ?_) (fun q => absurd q (by decide))
          refine wp_aload_n d_Mo_named_123 rfl rfl ?_
          refine wp_getI d_Mo_named_124 ow_Mo_named fl_8_162 (O_91 _) rfl (h6) ?_
          refine wp_reti d_Mo_named_127 rt_Mo_named ?_
          first
          | (rw [if_pos h15] at K; exact K)
          | (rw [if_neg h15, if_pos h39] at K; exact K)
          | (rw [if_neg h15, if_neg h39, if_pos h63] at K; exact K)
          | (rw [if_neg h15, if_neg h39, if_neg h63] at K; exact K)
      · refine wp_iconst (x := nI 1) d_Mo_named_42 rfl ?_
        refine wp_goto (pc' := 47) d_Mo_named_43 (by decide) ?_
        refine wp_iston3 d_Mo_named_47 rfl ?_
        refine wp_iload_n d_Mo_named_48 rfl rfl ?_
        refine wp_aload_n d_Mo_named_49 rfl rfl ?_
        refine wp_getI d_Mo_named_50 ow_Mo_named fl_8_136 (O_91 _) rfl (h2) ?_
        refine wp_ifN_ne (pc' := 61) d_Mo_named_53 (by decide) (by omega) (fun q => absurd q (by decide)) (fun _ => ?_)
        refine wp_bipush (x := nI 102) d_Mo_named_56 (by decide) ?_
        refine wp_goto (pc' := 63) d_Mo_named_58 (by decide) ?_
        refine wp_ic_ne (pc' := 70) d_Mo_named_63 (by decide) (fun h63 => ?_) (fun h63 => ?_)
        · refine wp_iconst (x := nI 0) d_Mo_named_70 rfl ?_
          refine wp_isto4 d_Mo_named_71 rfl ?_
          refine wp_iload_n d_Mo_named_73 rfl rfl ?_
          refine wp_ifN_ne (pc' := 91) d_Mo_named_74 (by decide) (by omega) (fun q => absurd q (by decide)) (fun _ => ?_)
          refine wp_iload_n d_Mo_named_77 rfl rfl ?_
          refine wp_ifN_ne (pc' := 91) d_Mo_named_78 (by decide) (by omega) (fun _ => ?_) (fun q => absurd q (by decide))
          refine wp_aload_n d_Mo_named_91 rfl rfl ?_
          refine wp_dup d_Mo_named_92 rfl ?_
          refine wp_getI d_Mo_named_93 ow_Mo_named fl_8_143 (O_91 _) rfl (rfl) ?_
          refine wp_iconst (x := nI 1) d_Mo_named_96 rfl ?_
          refine wp_iadd d_Mo_named_97 (nI_add _ _) ?_
          refine wp_put (ty := .int) d_Mo_named_98 ow_Mo_named fl_8_143 (by decide +kernel) (by decide +kernel) (O_91 _) rfl ⟨rfl, rfl⟩ ?_
          refine wp_eqS (ps_at _ _ _ _ _) ?_
          refine wp_iload_n d_Mo_named_101 rfl rfl ?_
          refine wp_ifN_eq (pc' := 112) d_Mo_named_102 (by decide) (by omega) (fun _ => ?_) (fun q => absurd q (by decide))
          refine wp_iload_n d_Mo_named_112 rfl rfl ?_
          refine wp_ifN_eq (pc' := 123) d_Mo_named_113 (by decide) (by omega) (fun q => absurd q (by decide)) (fun _ => ?_)
          refine wp_aload_n d_Mo_named_116 rfl rfl ?_
          refine wp_getI d_Mo_named_117 ow_Mo_named fl_8_159 (O_91 _) rfl (h5) ?_
          refine wp_goto (pc' := 127) d_Mo_named_120 (by decide) ?_
          refine wp_reti d_Mo_named_127 rt_Mo_named ?_
          first
          | (rw [if_pos h15] at K; exact K)
          | (rw [if_neg h15, if_pos h39] at K; exact K)
          | (rw [if_neg h15, if_neg h39, if_pos h63] at K; exact K)
          | (rw [if_neg h15, if_neg h39, if_neg h63] at K; exact K)
        · refine wp_iconst (x := nI 1) d_Mo_named_66 rfl ?_
          refine wp_goto (pc' := 71) d_Mo_named_67 (by decide) ?_
          refine wp_isto4 d_Mo_named_71 rfl ?_
          refine wp_iload_n d_Mo_named_73 rfl rfl ?_
          refine wp_ifN_ne (pc' := 91) d_Mo_named_74 (by decide) (by omega) (fun q => absurd q (by decide)) (fun _ => ?_)
          refine wp_iload_n d_Mo_named_77 rfl rfl ?_
          refine wp_ifN_ne (pc' := 91) d_Mo_named_78 (by decide) (by omega) (fun _ => ?_) (fun q => absurd q (by decide))
          refine wp_aload_n d_Mo_named_91 rfl rfl ?_
          refine wp_dup d_Mo_named_92 rfl ?_
          refine wp_getI d_Mo_named_93 ow_Mo_named fl_8_143 (O_91 _) rfl (rfl) ?_
          refine wp_iconst (x := nI 1) d_Mo_named_96 rfl ?_
          refine wp_iadd d_Mo_named_97 (nI_add _ _) ?_
          refine wp_put (ty := .int) d_Mo_named_98 ow_Mo_named fl_8_143 (by decide +kernel) (by decide +kernel) (O_91 _) rfl ⟨rfl, rfl⟩ ?_
          refine wp_eqS (ps_at _ _ _ _ _) ?_
          refine wp_iload_n d_Mo_named_101 rfl rfl ?_
          refine wp_ifN_eq (pc' := 112) d_Mo_named_102 (by decide) (by omega) (fun _ => ?_) (fun q => absurd q (by decide))
          refine wp_iload_n d_Mo_named_112 rfl rfl ?_
          refine wp_ifN_eq (pc' := 123) d_Mo_named_113 (by decide) (by omega) (fun q => absurd q (by decide)) (fun _ => ?_)
          refine wp_aload_n d_Mo_named_116 rfl rfl ?_
          refine wp_getI d_Mo_named_117 ow_Mo_named fl_8_159 (O_91 _) rfl (h5) ?_
          refine wp_goto (pc' := 127) d_Mo_named_120 (by decide) ?_
          refine wp_reti d_Mo_named_127 rt_Mo_named ?_
          first
          | (rw [if_pos h15] at K; exact K)
          | (rw [if_neg h15, if_pos h39] at K; exact K)
          | (rw [if_neg h15, if_neg h39, if_pos h63] at K; exact K)
          | (rw [if_neg h15, if_neg h39, if_neg h63] at K; exact K)
    · refine wp_iconst (x := nI 1) d_Mo_named_18 rfl ?_
      refine wp_goto (pc' := 23) d_Mo_named_19 (by decide) ?_
      refine wp_iston2 d_Mo_named_23 rfl ?_
      refine wp_iload_n d_Mo_named_24 rfl rfl ?_
      refine wp_aload_n d_Mo_named_25 rfl rfl ?_
      refine wp_getI d_Mo_named_26 ow_Mo_named fl_8_136 (O_91 _) rfl (h2) ?_
      refine wp_ifN_ne (pc' := 37) d_Mo_named_29 (by decide) (by omega) (fun q => absurd q (by decide)) (fun _ => ?_)
      refine wp_bipush (x := nI 116) d_Mo_named_32 (by decide) ?_
      refine wp_goto (pc' := 39) d_Mo_named_34 (by decide) ?_
      refine wp_ic_ne (pc' := 46) d_Mo_named_39 (by decide) (fun h39 => ?_) (fun h39 => ?_)
      · refine wp_iconst (x := nI 0) d_Mo_named_46 rfl ?_
        refine wp_iston3 d_Mo_named_47 rfl ?_
        refine wp_iload_n d_Mo_named_48 rfl rfl ?_
        refine wp_aload_n d_Mo_named_49 rfl rfl ?_
        refine wp_getI d_Mo_named_50 ow_Mo_named fl_8_136 (O_91 _) rfl (h2) ?_
        refine wp_ifN_ne (pc' := 61) d_Mo_named_53 (by decide) (by omega) (fun q => absurd q (by decide)) (fun _ => ?_)
        refine wp_bipush (x := nI 102) d_Mo_named_56 (by decide) ?_
        refine wp_goto (pc' := 63) d_Mo_named_58 (by decide) ?_
        refine wp_ic_ne (pc' := 70) d_Mo_named_63 (by decide) (fun h63 => ?_) (fun h63 => ?_)
        · refine wp_iconst (x := nI 0) d_Mo_named_70 rfl ?_
          refine wp_isto4 d_Mo_named_71 rfl ?_
          refine wp_iload_n d_Mo_named_73 rfl rfl ?_
          refine wp_ifN_ne (pc' := 91) d_Mo_named_74 (by decide) (by omega) (fun _ => ?_) (fun q => absurd q (by decide))
          refine wp_aload_n d_Mo_named_91 rfl rfl ?_
          refine wp_dup d_Mo_named_92 rfl ?_
          refine wp_getI d_Mo_named_93 ow_Mo_named fl_8_143 (O_91 _) rfl (rfl) ?_
          refine wp_iconst (x := nI 1) d_Mo_named_96 rfl ?_
          refine wp_iadd d_Mo_named_97 (nI_add _ _) ?_
          refine wp_put (ty := .int) d_Mo_named_98 ow_Mo_named fl_8_143 (by decide +kernel) (by decide +kernel) (O_91 _) rfl ⟨rfl, rfl⟩ ?_
          refine wp_eqS (ps_at _ _ _ _ _) ?_
          refine wp_iload_n d_Mo_named_101 rfl rfl ?_
          refine wp_ifN_eq (pc' := 112) d_Mo_named_102 (by decide) (by omega) (fun q => absurd q (by decide)) (fun _ => ?_)
          refine wp_aload_n d_Mo_named_105 rfl rfl ?_
          refine wp_getI d_Mo_named_106 ow_Mo_named fl_8_156 (O_91 _) rfl (h4) ?_
          refine wp_goto (pc' := 127) d_Mo_named_109 (by decide) ?_
          refine wp_reti d_Mo_named_127 rt_Mo_named ?_
          first
          | (rw [if_pos h15] at K; exact K)
          | (rw [if_neg h15, if_pos h39] at K; exact K)
          | (rw [if_neg h15, if_neg h39, if_pos h63] at K; exact K)
          | (rw [if_neg h15, if_neg h39, if_neg h63] at K; exact K)
        · refine wp_iconst (x := nI 1) d_Mo_named_66 rfl ?_
          refine wp_goto (pc' := 71) d_Mo_named_67 (by decide) ?_
          refine wp_isto4 d_Mo_named_71 rfl ?_
          refine wp_iload_n d_Mo_named_73 rfl rfl ?_
          refine wp_ifN_ne (pc' := 91) d_Mo_named_74 (by decide) (by omega) (fun _ => ?_) (fun q => absurd q (by decide))
          refine wp_aload_n d_Mo_named_91 rfl rfl ?_
          refine wp_dup d_Mo_named_92 rfl ?_
          refine wp_getI d_Mo_named_93 ow_Mo_named fl_8_143 (O_91 _) rfl (rfl) ?_
          refine wp_iconst (x := nI 1) d_Mo_named_96 rfl ?_
          refine wp_iadd d_Mo_named_97 (nI_add _ _) ?_
          refine wp_put (ty := .int) d_Mo_named_98 ow_Mo_named fl_8_143 (by decide +kernel) (by decide +kernel) (O_91 _) rfl ⟨rfl, rfl⟩ ?_
          refine wp_eqS (ps_at _ _ _ _ _) ?_
          refine wp_iload_n d_Mo_named_101 rfl rfl ?_
          refine wp_ifN_eq (pc' := 112) d_Mo_named_102 (by decide) (by omega) (fun q => absurd q (by decide)) (fun _ => ?_)
          refine wp_aload_n d_Mo_named_105 rfl rfl ?_
          refine wp_getI d_Mo_named_106 ow_Mo_named fl_8_156 (O_91 _) rfl (h4) ?_
          refine wp_goto (pc' := 127) d_Mo_named_109 (by decide) ?_
          refine wp_reti d_Mo_named_127 rt_Mo_named ?_
          first
          | (rw [if_pos h15] at K; exact K)
          | (rw [if_neg h15, if_pos h39] at K; exact K)
          | (rw [if_neg h15, if_neg h39, if_pos h63] at K; exact K)
          | (rw [if_neg h15, if_neg h39, if_neg h63] at K; exact K)
      · refine wp_iconst (x := nI 1) d_Mo_named_42 rfl ?_
        refine wp_goto (pc' := 47) d_Mo_named_43 (by decide) ?_
        refine wp_iston3 d_Mo_named_47 rfl ?_
        refine wp_iload_n d_Mo_named_48 rfl rfl ?_
        refine wp_aload_n d_Mo_named_49 rfl rfl ?_
        refine wp_getI d_Mo_named_50 ow_Mo_named fl_8_136 (O_91 _) rfl (h2) ?_
        refine wp_ifN_ne (pc' := 61) d_Mo_named_53 (by decide) (by omega) (fun q => absurd q (by decide)) (fun _ => ?_)
        refine wp_bipush (x := nI 102) d_Mo_named_56 (by decide) ?_
        refine wp_goto (pc' := 63) d_Mo_named_58 (by decide) ?_
        refine wp_ic_ne (pc' := 70) d_Mo_named_63 (by decide) (fun h63 => ?_) (fun h63 => ?_)
        · refine wp_iconst (x := nI 0) d_Mo_named_70 rfl ?_
          refine wp_isto4 d_Mo_named_71 rfl ?_
          refine wp_iload_n d_Mo_named_73 rfl rfl ?_
          refine wp_ifN_ne (pc' := 91) d_Mo_named_74 (by decide) (by omega) (fun _ => ?_) (fun q => absurd q (by decide))
          refine wp_aload_n d_Mo_named_91 rfl rfl ?_
          refine wp_dup d_Mo_named_92 rfl ?_
          refine wp_getI d_Mo_named_93 ow_Mo_named fl_8_143 (O_91 _) rfl (rfl) ?_
          refine wp_iconst (x := nI 1) d_Mo_named_96 rfl ?_
          refine wp_iadd d_Mo_named_97 (nI_add _ _) ?_
          refine wp_put (ty := .int) d_Mo_named_98 ow_Mo_named fl_8_143 (by decide +kernel) (by decide +kernel) (O_91 _) rfl ⟨rfl, rfl⟩ ?_
          refine wp_eqS (ps_at _ _ _ _ _) ?_
          refine wp_iload_n d_Mo_named_101 rfl rfl ?_
          refine wp_ifN_eq (pc' := 112) d_Mo_named_102 (by decide) (by omega) (fun q => absurd q (by decide)) (fun _ => ?_)
          refine wp_aload_n d_Mo_named_105 rfl rfl ?_
          refine wp_getI d_Mo_named_106 ow_Mo_named fl_8_156 (O_91 _) rfl (h4) ?_
          refine wp_goto (pc' := 127) d_Mo_named_109 (by decide) ?_
          refine wp_reti d_Mo_named_127 rt_Mo_named ?_
          first
          | (rw [if_pos h15] at K; exact K)
          | (rw [if_neg h15, if_pos h39] at K; exact K)
          | (rw [if_neg h15, if_neg h39, if_pos h63] at K; exact K)
          | (rw [if_neg h15, if_neg h39, if_neg h63] at K; exact K)
        · refine wp_iconst (x := nI 1) d_Mo_named_66 rfl ?_
          refine wp_goto (pc' := 71) d_Mo_named_67 (by decide) ?_
          refine wp_isto4 d_Mo_named_71 rfl ?_
          refine wp_iload_n d_Mo_named_73 rfl rfl ?_
          refine wp_ifN_ne (pc' := 91) d_Mo_named_74 (by decide) (by omega) (fun _ => ?_) (fun q => absurd q (by decide))
          refine wp_aload_n d_Mo_named_91 rfl rfl ?_
          refine wp_dup d_Mo_named_92 rfl ?_
          refine wp_getI d_Mo_named_93 ow_Mo_named fl_8_143 (O_91 _) rfl (rfl) ?_
          refine wp_iconst (x := nI 1) d_Mo_named_96 rfl ?_
          refine wp_iadd d_Mo_named_97 (nI_add _ _) ?_
          refine wp_put (ty := .int) d_Mo_named_98 ow_Mo_named fl_8_143 (by decide +kernel) (by decide +kernel) (O_91 _) rfl ⟨rfl, rfl⟩ ?_
          refine wp_eqS (ps_at _ _ _ _ _) ?_
          refine wp_iload_n d_Mo_named_101 rfl rfl ?_
          refine wp_ifN_eq (pc' := 112) d_Mo_named_102 (by decide) (by omega) (fun q => absurd q (by decide)) (fun _ => ?_)
          refine wp_aload_n d_Mo_named_105 rfl rfl ?_
          refine wp_getI d_Mo_named_106 ow_Mo_named fl_8_156 (O_91 _) rfl (h4) ?_
          refine wp_goto (pc' := 127) d_Mo_named_109 (by decide) ?_
          refine wp_reti d_Mo_named_127 rt_Mo_named ?_
          first
          | (rw [if_pos h15] at K; exact K)
          | (rw [if_neg h15, if_pos h39] at K; exact K)
          | (rw [if_neg h15, if_neg h39, if_pos h63] at K; exact K)
          | (rw [if_neg h15, if_neg h39, if_neg h63] at K; exact K)
  · rw [show sp_n0 1 = nI 97 from rfl, show sp_n1 1 = nI 110 from rfl, show sp_n2 1 = nI 109 from rfl] at K
    refine cl_in ml_Mo_named rfl rfl ?_
    refine wp_iload_n d_Mo_named_0 rfl rfl ?_
    refine wp_aload_n d_Mo_named_1 rfl rfl ?_
    refine wp_getI d_Mo_named_2 ow_Mo_named fl_8_136 (O_91 _) rfl (h2) ?_
    refine wp_ifN_ne (pc' := 13) d_Mo_named_5 (by decide) (by omega) (fun _ => ?_) (fun q => absurd q (by decide))
    refine wp_bipush (x := nI 97) d_Mo_named_13 (by decide) ?_
    refine wp_ic_ne (pc' := 22) d_Mo_named_15 (by decide) (fun h15 => ?_) (fun h15 => ?_)
    · refine wp_iconst (x := nI 0) d_Mo_named_22 rfl ?_
      refine wp_iston2 d_Mo_named_23 rfl ?_
      refine wp_iload_n d_Mo_named_24 rfl rfl ?_
      refine wp_aload_n d_Mo_named_25 rfl rfl ?_
      refine wp_getI d_Mo_named_26 ow_Mo_named fl_8_136 (O_91 _) rfl (h2) ?_
      refine wp_ifN_ne (pc' := 37) d_Mo_named_29 (by decide) (by omega) (fun _ => ?_) (fun q => absurd q (by decide))
      refine wp_bipush (x := nI 110) d_Mo_named_37 (by decide) ?_
      refine wp_ic_ne (pc' := 46) d_Mo_named_39 (by decide) (fun h39 => ?_) (fun h39 => ?_)
      · refine wp_iconst (x := nI 0) d_Mo_named_46 rfl ?_
        refine wp_iston3 d_Mo_named_47 rfl ?_
        refine wp_iload_n d_Mo_named_48 rfl rfl ?_
        refine wp_aload_n d_Mo_named_49 rfl rfl ?_
        refine wp_getI d_Mo_named_50 ow_Mo_named fl_8_136 (O_91 _) rfl (h2) ?_
        refine wp_ifN_ne (pc' := 61) d_Mo_named_53 (by decide) (by omega) (fun _ => ?_) (fun q => absurd q (by decide))
        refine wp_bipush (x := nI 109) d_Mo_named_61 (by decide) ?_
        refine wp_ic_ne (pc' := 70) d_Mo_named_63 (by decide) (fun h63 => ?_) (fun h63 => ?_)
        · refine wp_iconst (x := nI 0) d_Mo_named_70 rfl ?_
          refine wp_isto4 d_Mo_named_71 rfl ?_
          refine wp_iload_n d_Mo_named_73 rfl rfl ?_
          refine wp_ifN_ne (pc' := 91) d_Mo_named_74 (by decide) (by omega) (fun q => absurd q (by decide)) (fun _ => ?_)
          refine wp_iload_n d_Mo_named_77 rfl rfl ?_
          refine wp_ifN_ne (pc' := 91) d_Mo_named_78 (by decide) (by omega) (fun q => absurd q (by decide)) (fun _ => ?_)
          refine wp_iload d_Mo_named_81 rfl ?_
          refine wp_ifN_ne (pc' := 91) d_Mo_named_83 (by decide) (by omega) (fun q => absurd q (by decide)) (fun _ => ?_)
          refine wp_aload_n d_Mo_named_86 rfl rfl ?_
          refine wp_invV d_Mo_named_87 ow_Mo_named lk_8_152 (by decide) mi_Mo_fails rfl rfl (Nat.le_of_ble_eq_true rfl) rfl (wp_isC (O_91 _)) (Nat.le_trans (show h_Mo_fails ≤ 1 from by decide) hd) (m_fails _ _ _ ?_)
          refine wp_Ki ?_
          refine wp_reti d_Mo_named_90 rt_Mo_named ?_
          first
          | (rw [if_pos h15] at K; exact K)
          | (rw [if_neg h15, if_pos h39] at K; exact K)
          | (rw [if_neg h15, if_neg h39, if_pos h63] at K; exact K)
          | (rw [if_neg h15, if_neg h39, if_neg h63] at K; exact K)
        · refine wp_iconst (x := nI 1) d_Mo_named_66 rfl ?_
          refine wp_goto (pc' := 71) d_Mo_named_67 (by decide) ?_
          refine wp_isto4 d_Mo_named_71 rfl ?_
          refine wp_iload_n d_Mo_named_73 rfl rfl ?_
          refine wp_ifN_ne (pc' := 91) d_Mo_named_74 (by decide) (by omega) (fun q => absurd q (by decide)) (fun _ => ?_)
          refine wp_iload_n d_Mo_named_77 rfl rfl ?_
          refine wp_ifN_ne (pc' := 91) d_Mo_named_78 (by decide) (by omega) (fun q => absurd q (by decide)) (fun _ => ?_)
          refine wp_iload d_Mo_named_81 rfl ?_
          refine wp_ifN_ne (pc' := 91) d_Mo_named_83 (by decide) (by omega) (fun _ => ?_) (fun q => absurd q (by decide))
          refine wp_aload_n d_Mo_named_91 rfl rfl ?_
          refine wp_dup d_Mo_named_92 rfl ?_
          refine wp_getI d_Mo_named_93 ow_Mo_named fl_8_143 (O_91 _) rfl (rfl) ?_
          refine wp_iconst (x := nI 1) d_Mo_named_96 rfl ?_
          refine wp_iadd d_Mo_named_97 (nI_add _ _) ?_
          refine wp_put (ty := .int) d_Mo_named_98 ow_Mo_named fl_8_143 (by decide +kernel) (by decide +kernel) (O_91 _) rfl ⟨rfl, rfl⟩ ?_
          refine wp_eqS (ps_at _ _ _ _ _) ?_
          refine wp_iload_n d_Mo_named_101 rfl rfl ?_
          refine wp_ifN_eq (pc' := 112) d_Mo_named_102 (by decide) (by omega) (fun _ => ?_) (fun q => absurd q (by decide))
          refine wp_iload_n d_Mo_named_112 rfl rfl ?_
          refine wp_ifN_eq (pc' := 123) d_Mo_named_113 (by decide) (by omega) (fun _ => ?_) (fun q => absurd q (by decide))
          refine wp_aload_n d_Mo_named_123 rfl rfl ?_
          refine wp_getI d_Mo_named_124 ow_Mo_named fl_8_162 (O_91 _) rfl (h6) ?_
          refine wp_reti d_Mo_named_127 rt_Mo_named ?_
          first
          | (rw [if_pos h15] at K; exact K)
          | (rw [if_neg h15, if_pos h39] at K; exact K)
          | (rw [if_neg h15, if_neg h39, if_pos h63] at K; exact K)
          | (rw [if_neg h15, if_neg h39, if_neg h63] at K; exact K)
      · refine wp_iconst (x := nI 1) d_Mo_named_42 rfl ?_
        refine wp_goto (pc' := 47) d_Mo_named_43 (by decide) ?_
        refine wp_iston3 d_Mo_named_47 rfl ?_
        refine wp_iload_n d_Mo_named_48 rfl rfl ?_
        refine wp_aload_n d_Mo_named_49 rfl rfl ?_
        refine wp_getI d_Mo_named_50 ow_Mo_named fl_8_136 (O_91 _) rfl (h2) ?_
        refine wp_ifN_ne (pc' := 61) d_Mo_named_53 (by decide) (by omega) (fun _ => ?_) (fun q => absurd q (by decide))
        refine wp_bipush (x := nI 109) d_Mo_named_61 (by decide) ?_
        refine wp_ic_ne (pc' := 70) d_Mo_named_63 (by decide) (fun h63 => ?_) (fun h63 => ?_)
        · refine wp_iconst (x := nI 0) d_Mo_named_70 rfl ?_
          refine wp_isto4 d_Mo_named_71 rfl ?_
          refine wp_iload_n d_Mo_named_73 rfl rfl ?_
          refine wp_ifN_ne (pc' := 91) d_Mo_named_74 (by decide) (by omega) (fun q => absurd q (by decide)) (fun _ => ?_)
          refine wp_iload_n d_Mo_named_77 rfl rfl ?_
          refine wp_ifN_ne (pc' := 91) d_Mo_named_78 (by decide) (by omega) (fun _ => ?_) (fun q => absurd q (by decide))
          refine wp_aload_n d_Mo_named_91 rfl rfl ?_
          refine wp_dup d_Mo_named_92 rfl ?_
          refine wp_getI d_Mo_named_93 ow_Mo_named fl_8_143 (O_91 _) rfl (rfl) ?_
          refine wp_iconst (x := nI 1) d_Mo_named_96 rfl ?_
          refine wp_iadd d_Mo_named_97 (nI_add _ _) ?_
          refine wp_put (ty := .int) d_Mo_named_98 ow_Mo_named fl_8_143 (by decide +kernel) (by decide +kernel) (O_91 _) rfl ⟨rfl, rfl⟩ ?_
          refine wp_eqS (ps_at _ _ _ _ _) ?_
          refine wp_iload_n d_Mo_named_101 rfl rfl ?_
          refine wp_ifN_eq (pc' := 112) d_Mo_named_102 (by decide) (by omega) (fun _ => ?_) (fun q => absurd q (by decide))
          refine wp_iload_n d_Mo_named_112 rfl rfl ?_
          refine wp_ifN_eq (pc' := 123) d_Mo_named_113 (by decide) (by omega) (fun q => absurd q (by decide)) (fun _ => ?_)
          refine wp_aload_n d_Mo_named_116 rfl rfl ?_
          refine wp_getI d_Mo_named_117 ow_Mo_named fl_8_159 (O_91 _) rfl (h5) ?_
          refine wp_goto (pc' := 127) d_Mo_named_120 (by decide) ?_
          refine wp_reti d_Mo_named_127 rt_Mo_named ?_
          first
          | (rw [if_pos h15] at K; exact K)
          | (rw [if_neg h15, if_pos h39] at K; exact K)
          | (rw [if_neg h15, if_neg h39, if_pos h63] at K; exact K)
          | (rw [if_neg h15, if_neg h39, if_neg h63] at K; exact K)
        · refine wp_iconst (x := nI 1) d_Mo_named_66 rfl ?_
          refine wp_goto (pc' := 71) d_Mo_named_67 (by decide) ?_
          refine wp_isto4 d_Mo_named_71 rfl ?_
          refine wp_iload_n d_Mo_named_73 rfl rfl ?_
          refine wp_ifN_ne (pc' := 91) d_Mo_named_74 (by decide) (by omega) (fun q => absurd q (by decide)) (fun _ => ?_)
          refine wp_iload_n d_Mo_named_77 rfl rfl ?_
          refine wp_ifN_ne (pc' := 91) d_Mo_named_78 (by decide) (by omega) (fun _ => ?_) (fun q => absurd q (by decide))
          refine wp_aload_n d_Mo_named_91 rfl rfl ?_
          refine wp_dup d_Mo_named_92 rfl ?_
          refine wp_getI d_Mo_named_93 ow_Mo_named fl_8_143 (O_91 _) rfl (rfl) ?_
          refine wp_iconst (x := nI 1) d_Mo_named_96 rfl ?_
          refine wp_iadd d_Mo_named_97 (nI_add _ _) ?_
          refine wp_put (ty := .int) d_Mo_named_98 ow_Mo_named fl_8_143 (by decide +kernel) (by decide +kernel) (O_91 _) rfl ⟨rfl, rfl⟩ ?_
          refine wp_eqS (ps_at _ _ _ _ _) ?_
          refine wp_iload_n d_Mo_named_101 rfl rfl ?_
          refine wp_ifN_eq (pc' := 112) d_Mo_named_102 (by decide) (by omega) (fun _ => ?_) (fun q => absurd q (by decide))
          refine wp_iload_n d_Mo_named_112 rfl rfl ?_
          refine wp_ifN_eq (pc' := 123) d_Mo_named_113 (by decide) (by omega) (fun q => absurd q (by decide)) (fun _ => ?_)
          refine wp_aload_n d_Mo_named_116 rfl rfl ?_
          refine wp_getI d_Mo_named_117 ow_Mo_named fl_8_159 (O_91 _) rfl (h5) ?_
          refine wp_goto (pc' := 127) d_Mo_named_120 (by decide) ?_
          refine wp_reti d_Mo_named_127 rt_Mo_named ?_
          first
          | (rw [if_pos h15] at K; exact K)
          | (rw [if_neg h15, if_pos h39] at K; exact K)
          | (rw [if_neg h15, if_neg h39, if_pos h63] at K; exact K)
          | (rw [if_neg h15, if_neg h39, if_neg h63] at K; exact K)
    · refine wp_iconst (x := nI 1) d_Mo_named_18 rfl ?_
      refine wp_goto (pc' := 23) d_Mo_named_19 (by decide) ?_
      refine wp_iston2 d_Mo_named_23 rfl ?_
      refine wp_iload_n d_Mo_named_24 rfl rfl ?_
      refine wp_aload_n d_Mo_named_25 rfl rfl ?_
      refine wp_getI d_Mo_named_26 ow_Mo_named fl_8_136 (O_91 _) rfl (h2) ?_
      refine wp_ifN_ne (pc' := 37) d_Mo_named_29 (by decide) (by omega) (fun _ => ?_) (fun q => absurd q (by decide))
      refine wp_bipush (x := nI 110) d_Mo_named_37 (by decide) ?_
      refine wp_ic_ne (pc' := 46) d_Mo_named_39 (by decide) (fun h39 => ?_) (fun h39 => ?_)
      · refine wp_iconst (x := nI 0) d_Mo_named_46 rfl ?_
        refine wp_iston3 d_Mo_named_47 rfl ?_
        refine wp_iload_n d_Mo_named_48 rfl rfl ?_
        refine wp_aload_n d_Mo_named_49 rfl rfl ?_
        refine wp_getI d_Mo_named_50 ow_Mo_named fl_8_136 (O_91 _) rfl (h2) ?_
        refine wp_ifN_ne (pc' := 61) d_Mo_named_53 (by decide) (by omega) (fun _ => ?_) (fun q => absurd q (by decide))
        refine wp_bipush (x := nI 109) d_Mo_named_61 (by decide) ?_
        refine wp_ic_ne (pc' := 70) d_Mo_named_63 (by decide) (fun h63 => ?_) (fun h63 => ?_)
        · refine wp_iconst (x := nI 0) d_Mo_named_70 rfl ?_
          refine wp_isto4 d_Mo_named_71 rfl ?_
          refine wp_iload_n d_Mo_named_73 rfl rfl ?_
          refine wp_ifN_ne (pc' := 91) d_Mo_named_74 (by decide) (by omega) (fun _ => ?_) (fun q => absurd q (by decide))
          refine wp_aload_n d_Mo_named_91 rfl rfl ?_
          refine wp_dup d_Mo_named_92 rfl ?_
          refine wp_getI d_Mo_named_93 ow_Mo_named fl_8_143 (O_91 _) rfl (rfl) ?_
          refine wp_iconst (x := nI 1) d_Mo_named_96 rfl ?_
          refine wp_iadd d_Mo_named_97 (nI_add _ _) ?_
          refine wp_put (ty := .int) d_Mo_named_98 ow_Mo_named fl_8_143 (by decide +kernel) (by decide +kernel) (O_91 _) rfl ⟨rfl, rfl⟩ ?_
          refine wp_eqS (ps_at _ _ _ _ _) ?_
          refine wp_iload_n d_Mo_named_101 rfl rfl ?_
          refine wp_ifN_eq (pc' := 112) d_Mo_named_102 (by decide) (by omega) (fun q => absurd q (by decide)) (fun _ => ?_)
          refine wp_aload_n d_Mo_named_105 rfl rfl ?_
          refine wp_getI d_Mo_named_106 ow_Mo_named fl_8_156 (O_91 _) rfl (h4) ?_
          refine wp_goto (pc' := 127) d_Mo_named_109 (by decide) ?_
          refine wp_reti d_Mo_named_127 rt_Mo_named ?_
          first
          | (rw [if_pos h15] at K; exact K)
          | (rw [if_neg h15, if_pos h39] at K; exact K)
          | (rw [if_neg h15, if_neg h39, if_pos h63] at K; exact K)
          | (rw [if_neg h15, if_neg h39, if_neg h63] at K; exact K)
        · refine wp_iconst (x := nI 1) d_Mo_named_66 rfl ?_
          refine wp_goto (pc' := 71) d_Mo_named_67 (by decide) ?_
          refine wp_isto4 d_Mo_named_71 rfl ?_
          refine wp_iload_n d_Mo_named_73 rfl rfl ?_
          refine wp_ifN_ne (pc' := 91) d_Mo_named_74 (by decide) (by omega) (fun _ => ?_) (fun q => absurd q (by decide))
          refine wp_aload_n d_Mo_named_91 rfl rfl ?_
          refine wp_dup d_Mo_named_92 rfl ?_
          refine wp_getI d_Mo_named_93 ow_Mo_named fl_8_143 (O_91 _) rfl (rfl) ?_
          refine wp_iconst (x := nI 1) d_Mo_named_96 rfl ?_
          refine wp_iadd d_Mo_named_97 (nI_add _ _) ?_
          refine wp_put (ty := .int) d_Mo_named_98 ow_Mo_named fl_8_143 (by decide +kernel) (by decide +kernel) (O_91 _) rfl ⟨rfl, rfl⟩ ?_
          refine wp_eqS (ps_at _ _ _ _ _) ?_
          refine wp_iload_n d_Mo_named_101 rfl rfl ?_
          refine wp_ifN_eq (pc' := 112) d_Mo_named_102 (by decide) (by omega) (fun q => absurd q (by decide)) (fun _ => ?_)
          refine wp_aload_n d_Mo_named_105 rfl rfl ?_
          refine wp_getI d_Mo_named_106 ow_Mo_named fl_8_156 (O_91 _) rfl (h4) ?_
          refine wp_goto (pc' := 127) d_Mo_named_109 (by decide) ?_
          refine wp_reti d_Mo_named_127 rt_Mo_named ?_
          first
          | (rw [if_pos h15] at K; exact K)
          | (rw [if_neg h15, if_pos h39] at K; exact K)
          | (rw [if_neg h15, if_neg h39, if_pos h63] at K; exact K)
          | (rw [if_neg h15, if_neg h39, if_neg h63] at K; exact K)
      · refine wp_iconst (x := nI 1) d_Mo_named_42 rfl ?_
        refine wp_goto (pc' := 47) d_Mo_named_43 (by decide) ?_
        refine wp_iston3 d_Mo_named_47 rfl ?_
        refine wp_iload_n d_Mo_named_48 rfl rfl ?_
        refine wp_aload_n d_Mo_named_49 rfl rfl ?_
        refine wp_getI d_Mo_named_50 ow_Mo_named fl_8_136 (O_91 _) rfl (h2) ?_
        refine wp_ifN_ne (pc' := 61) d_Mo_named_53 (by decide) (by omega) (fun _ => ?_) (fun q => absurd q (by decide))
        refine wp_bipush (x := nI 109) d_Mo_named_61 (by decide) ?_
        refine wp_ic_ne (pc' := 70) d_Mo_named_63 (by decide) (fun h63 => ?_) (fun h63 => ?_)
        · refine wp_iconst (x := nI 0) d_Mo_named_70 rfl ?_
          refine wp_isto4 d_Mo_named_71 rfl ?_
          refine wp_iload_n d_Mo_named_73 rfl rfl ?_
          refine wp_ifN_ne (pc' := 91) d_Mo_named_74 (by decide) (by omega) (fun _ => ?_) (fun q => absurd q (by decide))
          refine wp_aload_n d_Mo_named_91 rfl rfl ?_
          refine wp_dup d_Mo_named_92 rfl ?_
          refine wp_getI d_Mo_named_93 ow_Mo_named fl_8_143 (O_91 _) rfl (rfl) ?_
          refine wp_iconst (x := nI 1) d_Mo_named_96 rfl ?_
          refine wp_iadd d_Mo_named_97 (nI_add _ _) ?_
          refine wp_put (ty := .int) d_Mo_named_98 ow_Mo_named fl_8_143 (by decide +kernel) (by decide +kernel) (O_91 _) rfl ⟨rfl, rfl⟩ ?_
          refine wp_eqS (ps_at _ _ _ _ _) ?_
          refine wp_iload_n d_Mo_named_101 rfl rfl ?_
          refine wp_ifN_eq (pc' := 112) d_Mo_named_102 (by decide) (by omega) (fun q => absurd q (by decide)) (fun _ => ?_)
          refine wp_aload_n d_Mo_named_105 rfl rfl ?_
          refine wp_getI d_Mo_named_106 ow_Mo_named fl_8_156 (O_91 _) rfl (h4) ?_
          refine wp_goto (pc' := 127) d_Mo_named_109 (by decide) ?_
          refine wp_reti d_Mo_named_127 rt_Mo_named ?_
          first
          | (rw [if_pos h15] at K; exact K)
          | (rw [if_neg h15, if_pos h39] at K; exact K)
          | (rw [if_neg h15, if_neg h39, if_pos h63] at K; exact K)
          | (rw [if_neg h15, if_neg h39, if_neg h63] at K; exact K)
        · refine wp_iconst (x := nI 1) d_Mo_named_66 rfl ?_
          refine wp_goto (pc' := 71) d_Mo_named_67 (by decide) ?_
          refine wp_isto4 d_Mo_named_71 rfl ?_
          refine wp_iload_n d_Mo_named_73 rfl rfl ?_
          refine wp_ifN_ne (pc' := 91) d_Mo_named_74 (by decide) (by omega) (fun _ => ?_) (fun q => absurd q (by decide))
          refine wp_aload_n d_Mo_named_91 rfl rfl ?_
          refine wp_dup d_Mo_named_92 rfl ?_
          refine wp_getI d_Mo_named_93 ow_Mo_named fl_8_143 (O_91 _) rfl (rfl) ?_
          refine wp_iconst (x := nI 1) d_Mo_named_96 rfl ?_
          refine wp_iadd d_Mo_named_97 (nI_add _ _) ?_
          refine wp_put (ty := .int) d_Mo_named_98 ow_Mo_named fl_8_143 (by decide +kernel) (by decide +kernel) (O_91 _) rfl ⟨rfl, rfl⟩ ?_
          refine wp_eqS (ps_at _ _ _ _ _) ?_
          refine wp_iload_n d_Mo_named_101 rfl rfl ?_
          refine wp_ifN_eq (pc' := 112) d_Mo_named_102 (by decide) (by omega) (fun q => absurd q (by decide)) (fun _ => ?_)
          refine wp_aload_n d_Mo_named_105 rfl rfl ?_
          refine wp_getI d_Mo_named_106 ow_Mo_named fl_8_156 (O_91 _) rfl (h4) ?_
          refine wp_goto (pc' := 127) d_Mo_named_109 (by decide) ?_
          refine wp_reti d_Mo_named_127 rt_Mo_named ?_
          first
          | (rw [if_pos h15] at K; exact K)
          | (rw [if_neg h15, if_pos h39] at K; exact K)
          | (rw [if_neg h15, if_neg h39, if_pos h63] at K; exact K)
          | (rw [if_neg h15, if_neg h39, if_neg h63] at K; exact K)
end PS
