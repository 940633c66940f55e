/-! the reference: what a text comes to, level by level -/
theorem jn_or (x z : Int32) : sp_jn (nI 124) x z = bi (x ≠ 0 ∨ z ≠ 0) := by unfold sp_jn; rw [if_pos (by decide)]
theorem jn_and (x z : Int32) : sp_jn (nI 38) x z = bi (x ≠ 0 ∧ z ≠ 0) := by unfold sp_jn; rw [if_neg (by decide), if_pos (by decide)]
theorem jn_lt (x z : Int32) : sp_jn (nI 60) x z = bi (x < z) := by unfold sp_jn; rw [if_neg (by decide), if_neg (by decide), if_pos (by decide)]
theorem jn_eq (x z : Int32) : sp_jn (nI 61) x z = bi (x = z) := by unfold sp_jn; rw [if_neg (by decide), if_neg (by decide), if_neg (by decide), if_pos (by decide)]
theorem jn_gt (x z : Int32) : sp_jn (nI 62) x z = bi (z < x) := by unfold sp_jn; rw [if_neg (by decide), if_neg (by decide), if_neg (by decide), if_neg (by decide), if_pos (by decide)]
theorem jn_add (x z : Int32) : sp_jn (nI 43) x z = x + z := by unfold sp_jn; rw [if_neg (by decide), if_neg (by decide), if_neg (by decide), if_neg (by decide), if_neg (by decide), if_pos (by decide)]
theorem jn_sub (x z : Int32) : sp_jn (nI 45) x z = x - z := by unfold sp_jn; rw [if_neg (by decide), if_neg (by decide), if_neg (by decide), if_neg (by decide), if_neg (by decide), if_neg (by decide), if_pos (by decide)]
theorem jn_mul (x z : Int32) : sp_jn (nI 42) x z = x * z := by unfold sp_jn; rw [if_neg (by decide), if_neg (by decide), if_neg (by decide), if_neg (by decide), if_neg (by decide), if_neg (by decide), if_neg (by decide), if_pos (by decide)]
theorem jn_div (x z : Int32) : sp_jn (nI 47) x z = if z = 0 then 0 else x / z := by unfold sp_jn; rw [if_neg (by decide), if_neg (by decide), if_neg (by decide), if_neg (by decide), if_neg (by decide), if_neg (by decide), if_neg (by decide), if_neg (by decide), if_pos (by decide)]
theorem jn_rem (x z : Int32) : sp_jn (nI 37) x z = if z = 0 then 0 else x - x / z * z := by unfold sp_jn; rw [if_neg (by decide), if_neg (by decide), if_neg (by decide), if_neg (by decide), if_neg (by decide), if_neg (by decide), if_neg (by decide), if_neg (by decide), if_neg (by decide)]
theorem sp_op_0 {x : Int32} : sp_op 0 x = true ↔ x = nI 124 := decide_eq_true_iff
theorem sp_op_1 {x : Int32} : sp_op 1 x = true ↔ x = nI 38 := decide_eq_true_iff
theorem sp_op_2 {x : Int32} : sp_op 2 x = true ↔ x = nI 60 ∨ x = nI 61 ∨ x = nI 62 := decide_eq_true_iff
theorem sp_op_3 {x : Int32} : sp_op 3 x = true ↔ x = nI 43 ∨ x = nI 45 := decide_eq_true_iff
theorem sp_op_4 {x : Int32} : sp_op 4 x = true ↔ x = nI 42 ∨ x = nI 47 ∨ x = nI 37 := decide_eq_true_iff
theorem sp_pr_lv (by_ : Nat → Int32) (n0 n1 n2 : Int32) (f lv op k : Nat) (h : lv < 5) : sp_pr by_ n0 n1 n2 (f + 1) lv op k = sp_lp (fun k => sp_pr by_ n0 n1 n2 f (lv + 1) op k) (sp_op lv) by_ (if lv = 2 then 1 else 50) (sp_pr by_ n0 n1 n2 f (lv + 1) op k) := by
  rw [sp_pr]
  exact if_pos h
section PL
variable {S : wp_S} {q : sp_R} {u n : Nat} {a b c : Int32} {Q : Option Value → wp_S → Prop}
/-- one joining more -/
abbrev ps_nx (q : sp_R) (u n f lv op : Nat) (r : sp_P) : sp_P := ((ps_p q u n f (lv + 1) op (r.2.1 + 1)).1, (ps_p q u n f (lv + 1) op (r.2.1 + 1)).2.1, r.2.2 ++ (ps_p q u n f (lv + 1) op (r.2.1 + 1)).2.2 ++ [20000 + ps_b q u n r.2.1])
abbrev ps_l (q : sp_R) (u n f lv op cc : Nat) (r : sp_P) : sp_P := sp_lp (fun k => ps_p q u n f (lv + 1) op k) (sp_op lv) (ps_b q u n) cc r
theorem ps_l_s {f lv op cc : Nat} {r : sp_P} (h : r.1 = true ∧ sp_op lv (ps_b q u n r.2.1) = true) : ps_l q u n f lv op (cc + 1) r = ps_l q u n f lv op cc (ps_nx q u n f lv op r) := if_pos h
theorem ps_l_e {f lv op cc : Nat} {r : sp_P} (h : ¬ (r.1 = true ∧ sp_op lv (ps_b q u n r.2.1) = true)) : ps_l q u n f lv op (cc + 1) r = r := if_neg h
theorem ps_j {f lv op s : Nat} {r : sp_P} {v w : Int32} (hs : s < 256) (h33 : s ≠ 33) (e : ps_b q u n r.2.1 = nI s) (hv : ∀ St, sp_ex a b c r.2.2 St = v :: St) (hw : ∀ St, sp_ex a b c (ps_p q u n f (lv + 1) op (r.2.1 + 1)).2.2 St = w :: St) (St : List Int32) : sp_ex a b c (ps_nx q u n f lv op r).2.2 St = sp_jn (nI s) v w :: St := by
  show sp_ex a b c (r.2.2 ++ _ ++ [20000 + ps_b q u n r.2.1]) St = _
  rw [e]
  exact sp_st_join hs h33 (hv St) (hw (v :: St))
theorem m_product_loop (C : ps_C S q u n a b c) {d f op : Nat} (hd : 3 ≤ d) (ih5 : ∀ k, k ≤ n → ps_T S q u n a b c d y_Mo_factor f 5 op k) : ∀ cc (r : sp_P) (v : Int32) (l2 l3 : Option Value), r.2.1 ≤ n → (r.1 = true → n ≤ r.2.1 + cc) → (r.1 = true → ∀ St, sp_ex a b c r.2.2 St = v :: St) → (∀ v, ((ps_l q u n f 4 op cc r).1 = true → ∀ St, sp_ex a b c (ps_l q u n f 4 op cc r).2.2 St = v :: St) → Q (some (.int v)) (ps S (ps_l q u n f 4 op cc r).2.1 op (ps_l q u n f 4 op cc r).1)) → wp d y_Mo_product 5 [some (.ref 91), some (.int v), l2, l3] [] (ps S r.2.1 op r.1) Q := by
  have hn := C.1.2
  intro cc
  induction cc with
  | zero =>
    intro r v l2 l3 hr hc hv K
    refine wp_aload_n d_Mo_product_5 rfl rfl ?_
    refine wp_getI d_Mo_product_6 ow_Mo_product fl_8_139 (O_91 _) rfl (rfl) ?_
    refine wp_ifB_eq (pc' := 114) d_Mo_product_9 (by decide) (fun h9 => ?_) (fun h9 => ?_)
    · refine wp_iload_n d_Mo_product_114 rfl rfl ?_
      refine wp_reti d_Mo_product_115 rt_Mo_product ?_
      exact K v hv
    · refine wp_aload_n d_Mo_product_12 rfl rfl ?_
      refine wp_aload_n d_Mo_product_13 rfl rfl ?_
      refine wp_getI d_Mo_product_14 ow_Mo_product fl_8_143 (O_91 _) rfl (rfl) ?_
      refine wp_invV d_Mo_product_17 ow_Mo_product lk_8_146 (by decide) mi_Mo_byteAt rfl rfl (Nat.le_of_ble_eq_true rfl) rfl (wp_isC (O_91 _)) (Nat.le_trans (show h_Mo_byteAt ≤ 3 from by decide) hd) (m_byteAt C _ _ _ _ (by omega) ?_)
      refine wp_Ki ?_
      refine wp_bipush (x := nI 42) d_Mo_product_20 (by decide) ?_
      refine wp_ic_eq (pc' := 51) d_Mo_product_22 (by decide) (fun h22 => absurd (ps_b_lt h22 (by decide)) (by have := hc h9; omega)) (fun h22 => ?_)
      refine wp_aload_n d_Mo_product_25 rfl rfl ?_
      refine wp_aload_n d_Mo_product_26 rfl rfl ?_
      refine wp_getI d_Mo_product_27 ow_Mo_product fl_8_143 (O_91 _) rfl (rfl) ?_
      refine wp_invV d_Mo_product_30 ow_Mo_product lk_8_146 (by decide) mi_Mo_byteAt rfl rfl (Nat.le_of_ble_eq_true rfl) rfl (wp_isC (O_91 _)) (Nat.le_trans (show h_Mo_byteAt ≤ 3 from by decide) hd) (m_byteAt C _ _ _ _ (by omega) ?_)
      refine wp_Ki ?_
      refine wp_bipush (x := nI 47) d_Mo_product_33 (by decide) ?_
      refine wp_ic_eq (pc' := 51) d_Mo_product_35 (by decide) (fun h35 => absurd (ps_b_lt h35 (by decide)) (by have := hc h9; omega)) (fun h35 => ?_)
      refine wp_aload_n d_Mo_product_38 rfl rfl ?_
      refine wp_aload_n d_Mo_product_39 rfl rfl ?_
      refine wp_getI d_Mo_product_40 ow_Mo_product fl_8_143 (O_91 _) rfl (rfl) ?_
      refine wp_invV d_Mo_product_43 ow_Mo_product lk_8_146 (by decide) mi_Mo_byteAt rfl rfl (Nat.le_of_ble_eq_true rfl) rfl (wp_isC (O_91 _)) (Nat.le_trans (show h_Mo_byteAt ≤ 3 from by decide) hd) (m_byteAt C _ _ _ _ (by omega) ?_)
      refine wp_Ki ?_
      refine wp_bipush (x := nI 37) d_Mo_product_46 (by decide) ?_
      refine wp_ic_ne (pc' := 114) d_Mo_product_48 (by decide) (fun h48 => ?_) (fun h48 => absurd (ps_b_lt h48 (by decide)) (by have := hc h9; omega))
      refine wp_iload_n d_Mo_product_114 rfl rfl ?_
      refine wp_reti d_Mo_product_115 rt_Mo_product ?_
      exact K v hv
  | succ cc ih =>
    intro r v l2 l3 hr hc hv K
    have step : ∀ s, r.1 = true → s < 256 → s ≠ 33 → ps_b q u n r.2.1 = nI s → sp_op 4 (nI s) = true → ∀ w, ((ps_p q u n f 5 op (r.2.1 + 1)).1 = true → ∀ St, sp_ex a b c (ps_p q u n f 5 op (r.2.1 + 1)).2.2 St = w :: St) → ∀ v' l2 l3, sp_jn (nI s) v w = v' → wp d y_Mo_product 5 [some (.ref 91), some (.int v'), l2, l3] [] (ps S (ps_nx q u n f 4 op r).2.1 op (ps_nx q u n f 4 op r).1) Q := by
      intro s h1 hs h33 e ho w hw v' l2 l3 e'
      subst e'
      have h2 := sp_pr_le (q := q) (u := u) (n := n) f (4 + 1) op (r.2.1 + 1) (ps_b_lt e (by intro z; have h8 := congrArg Int32.toInt z; rw [nI_toInt (by omega), show (-1 : Int32).toInt = -1 from by decide] at h8; omega))
      rw [ps_l_s ⟨h1, by rw [e]; exact ho⟩] at K
      exact ih _ _ _ _ h2.2.1 (fun z => by have := hc h1; have := h2.2.2 z; dsimp only [ps_p] at *; omega) (fun z => ps_j hs h33 e (hv h1) (hw z)) K
    have hlt : ∀ s, s < 256 → ps_b q u n r.2.1 = nI s → r.2.1 + 1 ≤ n := by
      intro s hs e
      exact ps_b_lt e (by intro z; have h8 := congrArg Int32.toInt z; rw [nI_toInt (by omega), show (-1 : Int32).toInt = -1 from by decide] at h8; omega)
    have H51 : ∀ s, r.1 = true → (s = 42 ∨ s = 47 ∨ s = 37) → ps_b q u n r.2.1 = nI s → wp d y_Mo_product 51 [some (.ref 91), some (.int v), l2, l3] [] (ps S r.2.1 op true) Q := by
      intro s h1 hs e
      have hl := hlt s (by omega) e
      have st := step s h1 (by omega) (by omega) e (sp_op_4.mpr (by rcases hs with rfl | rfl | rfl; exact Or.inl rfl; exact Or.inr (Or.inl rfl); exact Or.inr (Or.inr rfl)))
      refine wp_aload_n d_Mo_product_51 rfl rfl ?_
      refine wp_aload_n d_Mo_product_52 rfl rfl ?_
      refine wp_getI d_Mo_product_53 ow_Mo_product fl_8_143 (O_91 _) rfl (rfl) ?_
      refine wp_invV d_Mo_product_56 ow_Mo_product lk_8_146 (by decide) mi_Mo_byteAt rfl rfl (Nat.le_of_ble_eq_true rfl) rfl (wp_isC (O_91 _)) (Nat.le_trans (show h_Mo_byteAt ≤ 3 from by decide) hd) (m_byteAt C _ _ _ _ (by omega) (lf_i e ?_))
      refine wp_Ki ?_
      refine wp_iston2 d_Mo_product_59 rfl ?_
      refine wp_aload_n d_Mo_product_60 rfl rfl ?_
      refine wp_dup d_Mo_product_61 rfl ?_
      refine wp_getI d_Mo_product_62 ow_Mo_product fl_8_143 (O_91 _) rfl (rfl) ?_
      refine wp_iconst (x := nI 1) d_Mo_product_65 rfl ?_
      refine wp_iadd d_Mo_product_66 (nI_add _ _) ?_
      refine wp_put (ty := .int) d_Mo_product_67 ow_Mo_product fl_8_143 (by decide +kernel) (by decide +kernel) (O_91 _) rfl ⟨rfl, rfl⟩ ?_
      refine wp_eqS (ps_at _ _ _ _ _) ?_
      refine wp_aload_n d_Mo_product_70 rfl rfl ?_
      refine wp_invV d_Mo_product_71 ow_Mo_product lk_8_174 (by decide) mi_Mo_factor rfl rfl (Nat.le_of_ble_eq_true rfl) rfl (wp_isC (O_91 _)) (Nat.le_refl _) (ih5 _ hl _ (fun w hw => ?_))
      refine wp_Ki ?_
      refine wp_iston3 d_Mo_product_74 rfl ?_
      refine wp_iload_n d_Mo_product_75 rfl rfl ?_
      refine wp_bipush (x := nI 42) d_Mo_product_76 (by decide) ?_
      refine wp_icN_ne (pc' := 87) d_Mo_product_78 (by decide) (by omega) (by omega) (fun h78 => ?_) (fun h78 => ?_)
      · refine wp_iload_n d_Mo_product_87 rfl rfl ?_
        refine wp_if_ne (pc' := 95) d_Mo_product_88 (by decide) (fun h88 => ?_) (fun h88 => ?_)
        · refine wp_iload_n d_Mo_product_95 rfl rfl ?_
          refine wp_bipush (x := nI 47) d_Mo_product_96 (by decide) ?_
          refine wp_icN_ne (pc' := 107) d_Mo_product_98 (by decide) (by omega) (by omega) (fun h98 => ?_) (fun h98 => ?_)
          · refine wp_iload_n d_Mo_product_107 rfl rfl ?_
            refine wp_iload_n d_Mo_product_108 rfl rfl ?_
            refine wp_irem d_Mo_product_109 h88 rfl ?_
            refine wp_iston1 d_Mo_product_110 rfl ?_
            refine wp_goto (pc' := 5) d_Mo_product_111 (by decide) ?_
            exact st w hw _ _ _ (by first | (subst h78; exact jn_mul _ _) | (subst h98; rw [jn_div, if_neg h88]) | (obtain rfl : s = 37 := (by omega); rw [jn_rem, if_neg h88]) | (subst h88; rcases hs with rfl | rfl | rfl; exact absurd rfl h78; exact (jn_div _ _).trans (if_pos rfl); exact (jn_rem _ _).trans (if_pos rfl)))
          · refine wp_iload_n d_Mo_product_101 rfl rfl ?_
            refine wp_iload_n d_Mo_product_102 rfl rfl ?_
            refine wp_idiv d_Mo_product_103 h88 rfl ?_
            refine wp_goto (pc' := 110) d_Mo_product_104 (by decide) ?_
            refine wp_iston1 d_Mo_product_110 rfl ?_
            refine wp_goto (pc' := 5) d_Mo_product_111 (by decide) ?_
            exact st w hw _ _ _ (by first | (subst h78; exact jn_mul _ _) | (subst h98; rw [jn_div, if_neg h88]) | (obtain rfl : s = 37 := (by omega); rw [jn_rem, if_neg h88]) | (subst h88; rcases hs with rfl | rfl | rfl; exact absurd rfl h78; exact (jn_div _ _).trans (if_pos rfl); exact (jn_rem _ _).trans (if_pos rfl)))
        · refine wp_iconst (x := nI 0) d_Mo_product_91 rfl ?_
          refine wp_goto (pc' := 110) d_Mo_product_92 (by decide) ?_
          refine wp_iston1 d_Mo_product_110 rfl ?_
          refine wp_goto (pc' := 5) d_Mo_product_111 (by decide) ?_
          exact st w hw _ _ _ (by first | (subst h78; exact jn_mul _ _) | (subst h98; rw [jn_div, if_neg h88]) | (obtain rfl : s = 37 := (by omega); rw [jn_rem, if_neg h88]) | (subst h88; rcases hs with rfl | rfl | rfl; exact absurd rfl h78; exact (jn_div _ _).trans (if_pos rfl); exact (jn_rem _ _).trans (if_pos rfl)))
      · refine wp_iload_n d_Mo_product_81 rfl rfl ?_
        refine wp_iload_n d_Mo_product_82 rfl rfl ?_
        refine wp_imul d_Mo_product_83 rfl ?_
        refine wp_goto (pc' := 110) d_Mo_product_84 (by decide) ?_
        refine wp_iston1 d_Mo_product_110 rfl ?_
        refine wp_goto (pc' := 5) d_Mo_product_111 (by decide) ?_
        exact st w hw _ _ _ (by first | (subst h78; exact jn_mul _ _) | (subst h98; rw [jn_div, if_neg h88]) | (obtain rfl : s = 37 := (by omega); rw [jn_rem, if_neg h88]) | (subst h88; rcases hs with rfl | rfl | rfl; exact absurd rfl h78; exact (jn_div _ _).trans (if_pos rfl); exact (jn_rem _ _).trans (if_pos rfl)))
    refine wp_aload_n d_Mo_product_5 rfl rfl ?_
    refine wp_getI d_Mo_product_6 ow_Mo_product fl_8_139 (O_91 _) rfl (rfl) ?_
    refine wp_ifB_eq (pc' := 114) d_Mo_product_9 (by decide) (fun h9 => ?_) (fun h9 => ?_)
    · refine wp_iload_n d_Mo_product_114 rfl rfl ?_
      refine wp_reti d_Mo_product_115 rt_Mo_product ?_
      rw [ps_l_e (fun z => h9 z.1)] at K
      exact K v hv
    · refine wp_aload_n d_Mo_product_12 rfl rfl ?_
      refine wp_aload_n d_Mo_product_13 rfl rfl ?_
      refine wp_getI d_Mo_product_14 ow_Mo_product fl_8_143 (O_91 _) rfl (rfl) ?_
      refine wp_invV d_Mo_product_17 ow_Mo_product lk_8_146 (by decide) mi_Mo_byteAt rfl rfl (Nat.le_of_ble_eq_true rfl) rfl (wp_isC (O_91 _)) (Nat.le_trans (show h_Mo_byteAt ≤ 3 from by decide) hd) (m_byteAt C _ _ _ _ (by omega) ?_)
      refine wp_Ki ?_
      refine wp_bipush (x := nI 42) d_Mo_product_20 (by decide) ?_
      refine wp_ic_eq (pc' := 51) d_Mo_product_22 (by decide) (fun h22 => ?_) (fun h22 => ?_)
      · rw [h9]
        first
        | exact H51 42 h9 (Or.inl rfl) h22
        | exact H51 47 h9 (Or.inr (Or.inl rfl)) h35
        | exact H51 37 h9 (Or.inr (Or.inr rfl)) h48
      · refine wp_aload_n d_Mo_product_25 rfl rfl ?_
        refine wp_aload_n d_Mo_product_26 rfl rfl ?_
        refine wp_getI d_Mo_product_27 ow_Mo_product fl_8_143 (O_91 _) rfl (rfl) ?_
        refine wp_invV d_Mo_product_30 ow_Mo_product lk_8_146 (by decide) mi_Mo_byteAt rfl rfl (Nat.le_of_ble_eq_true rfl) rfl (wp_isC (O_91 _)) (Nat.le_trans (show h_Mo_byteAt ≤ 3 from by decide) hd) (m_byteAt C _ _ _ _ (by omega) ?_)
        refine wp_Ki ?_
        refine wp_bipush (x := nI 47) d_Mo_product_33 (by decide) ?_
        refine wp_ic_eq (pc' := 51) d_Mo_product_35 (by decide) (fun h35 => ?_) (fun h35 => ?_)
        · rw [h9]
          first
          | exact H51 42 h9 (Or.inl rfl) h22
          | exact H51 47 h9 (Or.inr (Or.inl rfl)) h35
          | exact H51 37 h9 (Or.inr (Or.inr rfl)) h48
        · refine wp_aload_n d_Mo_product_38 rfl rfl ?_
          refine wp_aload_n d_Mo_product_39 rfl rfl ?_
          refine wp_getI d_Mo_product_40 ow_Mo_product fl_8_143 (O_91 _) rfl (rfl) ?_
          refine wp_invV d_Mo_product_43 ow_Mo_product lk_8_146 (by decide) mi_Mo_byteAt rfl rfl (Nat.le_of_ble_eq_true rfl) rfl (wp_isC (O_91 _)) (Nat.le_trans (show h_Mo_byteAt ≤ 3 from by decide) hd) (m_byteAt C _ _ _ _ (by omega) ?_)
          refine wp_Ki ?_
          refine wp_bipush (x := nI 37) d_Mo_product_46 (by decide) ?_
          refine wp_ic_ne (pc' := 114) d_Mo_product_48 (by decide) (fun h48 => ?_) (fun h48 => ?_)
          · refine wp_iload_n d_Mo_product_114 rfl rfl ?_
            refine wp_reti d_Mo_product_115 rt_Mo_product ?_
            rw [ps_l_e (fun z => by rcases sp_op_4.mp z.2 with z | z | z; exact h22 z; exact h35 z; exact h48 z)] at K
            exact K v hv
          · rw [h9]
            first
            | exact H51 42 h9 (Or.inl rfl) h22
            | exact H51 47 h9 (Or.inr (Or.inl rfl)) h35
            | exact H51 37 h9 (Or.inr (Or.inr rfl)) h48
theorem m_product (C : ps_C S q u n a b c) {d f op k : Nat} (hd : 3 ≤ d) (hk : k ≤ n) (ih5 : ∀ k, k ≤ n → ps_T S q u n a b c d y_Mo_factor f 5 op k) : ps_T S q u n a b c (d + 1) y_Mo_product (f + 1) 4 op k := by
  intro Q K
  have hn := C.1.2
  have e : ps_p q u n (f + 1) 4 op k = ps_l q u n f 4 op 50 (ps_p q u n f 5 op k) := sp_pr_lv _ _ _ _ f 4 op k (by decide)
  rw [e] at K
  refine cl_in ml_Mo_product rfl rfl ?_
  refine wp_aload_n d_Mo_product_0 rfl rfl ?_
  refine wp_invV d_Mo_product_1 ow_Mo_product lk_8_174 (by decide) mi_Mo_factor rfl rfl (Nat.le_of_ble_eq_true rfl) rfl (wp_isC (O_91 _)) (Nat.le_refl _) (ih5 k hk _ (fun w hw => ?_))
  refine wp_Ki ?_
  refine wp_iston1 d_Mo_product_4 rfl ?_
  exact m_product_loop C hd ih5 50 _ _ _ _ (sp_pr_le f 5 op k hk).2.1 (fun _ => by omega) hw K
theorem m_sum_loop (C : ps_C S q u n a b c) {d f op : Nat} (hd : 3 ≤ d) (ih5 : ∀ k, k ≤ n → ps_T S q u n a b c d y_Mo_product f 4 op k) : ∀ cc (r : sp_P) (v : Int32) (l2 l3 : Option Value), r.2.1 ≤ n → (r.1 = true → n ≤ r.2.1 + cc) → (r.1 = true → ∀ St, sp_ex a b c r.2.2 St = v :: St) → (∀ v, ((ps_l q u n f 3 op cc r).1 = true → ∀ St, sp_ex a b c (ps_l q u n f 3 op cc r).2.2 St = v :: St) → Q (some (.int v)) (ps S (ps_l q u n f 3 op cc r).2.1 op (ps_l q u n f 3 op cc r).1)) → wp d y_Mo_sum 5 [some (.ref 91), some (.int v), l2, l3] [] (ps S r.2.1 op r.1) Q := by
  have hn := C.1.2
  intro cc
  induction cc with
  | zero =>
    intro r v l2 l3 hr hc hv K
    refine wp_aload_n d_Mo_sum_5 rfl rfl ?_
    refine wp_getI d_Mo_sum_6 ow_Mo_sum fl_8_139 (O_91 _) rfl (rfl) ?_
    refine wp_ifB_eq (pc' := 81) d_Mo_sum_9 (by decide) (fun h9 => ?_) (fun h9 => ?_)
    · refine wp_iload_n d_Mo_sum_81 rfl rfl ?_
      refine wp_reti d_Mo_sum_82 rt_Mo_sum ?_
      exact K v hv
    · refine wp_aload_n d_Mo_sum_12 rfl rfl ?_
      refine wp_aload_n d_Mo_sum_13 rfl rfl ?_
      refine wp_getI d_Mo_sum_14 ow_Mo_sum fl_8_143 (O_91 _) rfl (rfl) ?_
      refine wp_invV d_Mo_sum_17 ow_Mo_sum lk_8_146 (by decide) mi_Mo_byteAt rfl rfl (Nat.le_of_ble_eq_true rfl) rfl (wp_isC (O_91 _)) (Nat.le_trans (show h_Mo_byteAt ≤ 3 from by decide) hd) (m_byteAt C _ _ _ _ (by omega) ?_)
      refine wp_Ki ?_
      refine wp_bipush (x := nI 43) d_Mo_sum_20 (by decide) ?_
      refine wp_ic_eq (pc' := 38) d_Mo_sum_22 (by decide) (fun h22 => absurd (ps_b_lt h22 (by decide)) (by have := hc h9; omega)) (fun h22 => ?_)
      refine wp_aload_n d_Mo_sum_25 rfl rfl ?_
      refine wp_aload_n d_Mo_sum_26 rfl rfl ?_
      refine wp_getI d_Mo_sum_27 ow_Mo_sum fl_8_143 (O_91 _) rfl (rfl) ?_
      refine wp_invV d_Mo_sum_30 ow_Mo_sum lk_8_146 (by decide) mi_Mo_byteAt rfl rfl (Nat.le_of_ble_eq_true rfl) rfl (wp_isC (O_91 _)) (Nat.le_trans (show h_Mo_byteAt ≤ 3 from by decide) hd) (m_byteAt C _ _ _ _ (by omega) ?_)
      refine wp_Ki ?_
      refine wp_bipush (x := nI 45) d_Mo_sum_33 (by decide) ?_
      refine wp_ic_ne (pc' := 81) d_Mo_sum_35 (by decide) (fun h35 => ?_) (fun h35 => absurd (ps_b_lt h35 (by decide)) (by have := hc h9; omega))
      refine wp_iload_n d_Mo_sum_81 rfl rfl ?_
      refine wp_reti d_Mo_sum_82 rt_Mo_sum ?_
      exact K v hv
  | succ cc ih =>
    intro r v l2 l3 hr hc hv K
    have step : ∀ s, r.1 = true → s < 256 → s ≠ 33 → ps_b q u n r.2.1 = nI s → sp_op 3 (nI s) = true → ∀ w, ((ps_p q u n f 4 op (r.2.1 + 1)).1 = true → ∀ St, sp_ex a b c (ps_p q u n f 4 op (r.2.1 + 1)).2.2 St = w :: St) → ∀ v' l2 l3, sp_jn (nI s) v w = v' → wp d y_Mo_sum 5 [some (.ref 91), some (.int v'), l2, l3] [] (ps S (ps_nx q u n f 3 op r).2.1 op (ps_nx q u n f 3 op r).1) Q := by
      intro s h1 hs h33 e ho w hw v' l2 l3 e'
      subst e'
      have h2 := sp_pr_le (q := q) (u := u) (n := n) f (3 + 1) op (r.2.1 + 1) (ps_b_lt e (by intro z; have h8 := congrArg Int32.toInt z; rw [nI_toInt (by omega), show (-1 : Int32).toInt = -1 from by decide] at h8; omega))
      rw [ps_l_s ⟨h1, by rw [e]; exact ho⟩] at K
      exact ih _ _ _ _ h2.2.1 (fun z => by have := hc h1; have := h2.2.2 z; dsimp only [ps_p] at *; omega) (fun z => ps_j hs h33 e (hv h1) (hw z)) K
    have hlt : ∀ s, s < 256 → ps_b q u n r.2.1 = nI s → r.2.1 + 1 ≤ n := by
      intro s hs e
      exact ps_b_lt e (by intro z; have h8 := congrArg Int32.toInt z; rw [nI_toInt (by omega), show (-1 : Int32).toInt = -1 from by decide] at h8; omega)
    have H38 : ∀ s, r.1 = true → (s = 43 ∨ s = 45) → ps_b q u n r.2.1 = nI s → wp d y_Mo_sum 38 [some (.ref 91), some (.int v), l2, l3] [] (ps S r.2.1 op true) Q := by
      intro s h1 hs e
      have hl := hlt s (by omega) e
      have st := step s h1 (by omega) (by omega) e (sp_op_3.mpr (by rcases hs with rfl | rfl; exact Or.inl rfl; exact Or.inr rfl))
      refine wp_aload_n d_Mo_sum_38 rfl rfl ?_
      refine wp_aload_n d_Mo_sum_39 rfl rfl ?_
      refine wp_getI d_Mo_sum_40 ow_Mo_sum fl_8_143 (O_91 _) rfl (rfl) ?_
      refine wp_invV d_Mo_sum_43 ow_Mo_sum lk_8_146 (by decide) mi_Mo_byteAt rfl rfl (Nat.le_of_ble_eq_true rfl) rfl (wp_isC (O_91 _)) (Nat.le_trans (show h_Mo_byteAt ≤ 3 from by decide) hd) (m_byteAt C _ _ _ _ (by omega) (lf_i e ?_))
      refine wp_Ki ?_
      refine wp_iston2 d_Mo_sum_46 rfl ?_
      refine wp_aload_n d_Mo_sum_47 rfl rfl ?_
      refine wp_dup d_Mo_sum_48 rfl ?_
      refine wp_getI d_Mo_sum_49 ow_Mo_sum fl_8_143 (O_91 _) rfl (rfl) ?_
      refine wp_iconst (x := nI 1) d_Mo_sum_52 rfl ?_
      refine wp_iadd d_Mo_sum_53 (nI_add _ _) ?_
      refine wp_put (ty := .int) d_Mo_sum_54 ow_Mo_sum fl_8_143 (by decide +kernel) (by decide +kernel) (O_91 _) rfl ⟨rfl, rfl⟩ ?_
      refine wp_eqS (ps_at _ _ _ _ _) ?_
      refine wp_aload_n d_Mo_sum_57 rfl rfl ?_
      refine wp_invV d_Mo_sum_58 ow_Mo_sum lk_8_180 (by decide) mi_Mo_product rfl rfl (Nat.le_of_ble_eq_true rfl) rfl (wp_isC (O_91 _)) (Nat.le_refl _) (ih5 _ hl _ (fun w hw => ?_))
      refine wp_Ki ?_
      refine wp_iston3 d_Mo_sum_61 rfl ?_
      refine wp_iload_n d_Mo_sum_62 rfl rfl ?_
      refine wp_bipush (x := nI 43) d_Mo_sum_63 (by decide) ?_
      refine wp_icN_ne (pc' := 74) d_Mo_sum_65 (by decide) (by omega) (by omega) (fun h65 => ?_) (fun h65 => ?_)
      · refine wp_iload_n d_Mo_sum_74 rfl rfl ?_
        refine wp_iload_n d_Mo_sum_75 rfl rfl ?_
        refine wp_isub d_Mo_sum_76 rfl ?_
        refine wp_iston1 d_Mo_sum_77 rfl ?_
        refine wp_goto (pc' := 5) d_Mo_sum_78 (by decide) ?_
        exact st w hw _ _ _ (by first | (subst h65; exact jn_add _ _) | (obtain rfl : s = 45 := (by omega); exact jn_sub _ _))
      · refine wp_iload_n d_Mo_sum_68 rfl rfl ?_
        refine wp_iload_n d_Mo_sum_69 rfl rfl ?_
        refine wp_iadd d_Mo_sum_70 rfl ?_
        refine wp_goto (pc' := 77) d_Mo_sum_71 (by decide) ?_
        refine wp_iston1 d_Mo_sum_77 rfl ?_
        refine wp_goto (pc' := 5) d_Mo_sum_78 (by decide) ?_
        exact st w hw _ _ _ (by first | (subst h65; exact jn_add _ _) | (obtain rfl : s = 45 := (by omega); exact jn_sub _ _))
    refine wp_aload_n d_Mo_sum_5 rfl rfl ?_
    refine wp_getI d_Mo_sum_6 ow_Mo_sum fl_8_139 (O_91 _) rfl (rfl) ?_
    refine wp_ifB_eq (pc' := 81) d_Mo_sum_9 (by decide) (fun h9 => ?_) (fun h9 => ?_)
    · refine wp_iload_n d_Mo_sum_81 rfl rfl ?_
      refine wp_reti d_Mo_sum_82 rt_Mo_sum ?_
      rw [ps_l_e (fun z => h9 z.1)] at K
      exact K v hv
    · refine wp_aload_n d_Mo_sum_12 rfl rfl ?_
      refine wp_aload_n d_Mo_sum_13 rfl rfl ?_
      refine wp_getI d_Mo_sum_14 ow_Mo_sum fl_8_143 (O_91 _) rfl (rfl) ?_
      refine wp_invV d_Mo_sum_17 ow_Mo_sum lk_8_146 (by decide) mi_Mo_byteAt rfl rfl (Nat.le_of_ble_eq_true rfl) rfl (wp_isC (O_91 _)) (Nat.le_trans (show h_Mo_byteAt ≤ 3 from by decide) hd) (m_byteAt C _ _ _ _ (by omega) ?_)
      refine wp_Ki ?_
      refine wp_bipush (x := nI 43) d_Mo_sum_20 (by decide) ?_
      refine wp_ic_eq (pc' := 38) d_Mo_sum_22 (by decide) (fun h22 => ?_) (fun h22 => ?_)
      · rw [h9]
        first
        | exact H38 43 h9 (Or.inl rfl) h22
        | exact H38 45 h9 (Or.inr rfl) h35
      · refine wp_aload_n d_Mo_sum_25 rfl rfl ?_
        refine wp_aload_n d_Mo_sum_26 rfl rfl ?_
        refine wp_getI d_Mo_sum_27 ow_Mo_sum fl_8_143 (O_91 _) rfl (rfl) ?_
        refine wp_invV d_Mo_sum_30 ow_Mo_sum lk_8_146 (by decide) mi_Mo_byteAt rfl rfl (Nat.le_of_ble_eq_true rfl) rfl (wp_isC (O_91 _)) (Nat.le_trans (show h_Mo_byteAt ≤ 3 from by decide) hd) (m_byteAt C _ _ _ _ (by omega) ?_)
        refine wp_Ki ?_
        refine wp_bipush (x := nI 45) d_Mo_sum_33 (by decide) ?_
        refine wp_ic_ne (pc' := 81) d_Mo_sum_35 (by decide) (fun h35 => ?_) (fun h35 => ?_)
        · refine wp_iload_n d_Mo_sum_81 rfl rfl ?_
          refine wp_reti d_Mo_sum_82 rt_Mo_sum ?_
          rw [ps_l_e (fun z => by rcases sp_op_3.mp z.2 with z | z; exact h22 z; exact h35 z)] at K
          exact K v hv
        · rw [h9]
          first
          | exact H38 43 h9 (Or.inl rfl) h22
          | exact H38 45 h9 (Or.inr rfl) h35
theorem m_sum (C : ps_C S q u n a b c) {d f op k : Nat} (hd : 3 ≤ d) (hk : k ≤ n) (ih5 : ∀ k, k ≤ n → ps_T S q u n a b c d y_Mo_product f 4 op k) : ps_T S q u n a b c (d + 1) y_Mo_sum (f + 1) 3 op k := by
  intro Q K
  have hn := C.1.2
  have e : ps_p q u n (f + 1) 3 op k = ps_l q u n f 3 op 50 (ps_p q u n f 4 op k) := sp_pr_lv _ _ _ _ f 3 op k (by decide)
  rw [e] at K
  refine cl_in ml_Mo_sum rfl rfl ?_
  refine wp_aload_n d_Mo_sum_0 rfl rfl ?_
  refine wp_invV d_Mo_sum_1 ow_Mo_sum lk_8_180 (by decide) mi_Mo_product rfl rfl (Nat.le_of_ble_eq_true rfl) rfl (wp_isC (O_91 _)) (Nat.le_refl _) (ih5 k hk _ (fun w hw => ?_))
  refine wp_Ki ?_
  refine wp_iston1 d_Mo_sum_4 rfl ?_
  exact m_sum_loop C hd ih5 50 _ _ _ _ (sp_pr_le f 4 op k hk).2.1 (fun _ => by omega) hw K
theorem m_compared (C : ps_C S q u n a b c) {d f op k : Nat} (hd : 3 ≤ d) (hk : k ≤ n) (ih5 : ∀ k, k ≤ n → ps_T S q u n a b c d y_Mo_sum f 3 op k) : ps_T S q u n a b c (d + 1) y_Mo_compared (f + 1) 2 op k := by
  intro Q K
  have hn := C.1.2
  have e : ps_p q u n (f + 1) 2 op k = ps_l q u n f 2 op 1 (ps_p q u n f 3 op k) := sp_pr_lv _ _ _ _ f 2 op k (by decide)
  rw [e] at K
  have hr := (sp_pr_le (q := q) (u := u) f 3 op k hk).2.1
  have L : ∀ w, ((ps_p q u n f 3 op k).1 = true → ∀ St, sp_ex a b c (ps_p q u n f 3 op k).2.2 St = w :: St) → wp d y_Mo_compared 5 [some (.ref 91), some (.int w), none, none, none] [] (ps S (ps_p q u n f 3 op k).2.1 op (ps_p q u n f 3 op k).1) Q := by
    generalize ps_p q u n f 3 op k = r at K hr
    intro v hv
    have ex : ¬ (r.1 = true ∧ sp_op 2 (ps_b q u n r.2.1) = true) → Q (some (.int v)) (ps S r.2.1 op r.1) := by
      intro h
      rw [ps_l_e h] at K
      exact K v hv
    have H45 : ∀ s, r.1 = true → (s = 60 ∨ s = 61 ∨ s = 62) → ps_b q u n r.2.1 = nI s → wp d y_Mo_compared 45 [some (.ref 91), some (.int v), some (.int (nI s)), none, none] [] (ps S r.2.1 op true) Q := by
      intro s h1 hs e
      have hl : r.2.1 + 1 ≤ n := ps_b_lt e (by rcases hs with rfl | rfl | rfl <;> decide)
      have ho : sp_op 2 (nI s) = true := sp_op_2.mpr (by rcases hs with rfl | rfl | rfl; exact Or.inl rfl; exact Or.inr (Or.inl rfl); exact Or.inr (Or.inr rfl))
      rw [ps_l_s ⟨h1, by rw [e]; exact ho⟩] at K
      have fin : ∀ w, ((ps_p q u n f 3 op (r.2.1 + 1)).1 = true → ∀ St, sp_ex a b c (ps_p q u n f 3 op (r.2.1 + 1)).2.2 St = w :: St) → ∀ v', sp_jn (nI s) v w = v' → Q (some (.int v')) (ps S (ps_p q u n f 3 op (r.2.1 + 1)).2.1 op (ps_p q u n f 3 op (r.2.1 + 1)).1) := by
        intro w hw v' e'
        subst e'
        exact K _ (fun z => ps_j (by omega) (by omega) e (hv h1) (hw z))
      refine wp_aload_n d_Mo_compared_45 rfl rfl ?_
      refine wp_dup d_Mo_compared_46 rfl ?_
      refine wp_getI d_Mo_compared_47 ow_Mo_compared fl_8_143 (O_91 _) rfl (rfl) ?_
      refine wp_iconst (x := nI 1) d_Mo_compared_50 rfl ?_
      refine wp_iadd d_Mo_compared_51 (nI_add _ _) ?_
      refine wp_put (ty := .int) d_Mo_compared_52 ow_Mo_compared fl_8_143 (by decide +kernel) (by decide +kernel) (O_91 _) rfl ⟨rfl, rfl⟩ ?_
      refine wp_eqS (ps_at _ _ _ _ _) ?_
      refine wp_aload_n d_Mo_compared_55 rfl rfl ?_
      refine wp_invV d_Mo_compared_56 ow_Mo_compared lk_8_183 (by decide) mi_Mo_sum rfl rfl (Nat.le_of_ble_eq_true rfl) rfl (wp_isC (O_91 _)) (Nat.le_refl _) (ih5 _ hl _ (fun w hw => ?_))
      refine wp_Ki ?_
      refine wp_iston3 d_Mo_compared_59 rfl ?_
      refine wp_iload_n d_Mo_compared_60 rfl rfl ?_
      refine wp_bipush (x := nI 60) d_Mo_compared_61 (by decide) ?_
      refine wp_icN_ne (pc' := 79) d_Mo_compared_63 (by decide) (by omega) (by omega) (fun h63 => ?_) (fun h63 => ?_)
      · refine wp_iload_n d_Mo_compared_79 rfl rfl ?_
        refine wp_bipush (x := nI 61) d_Mo_compared_80 (by decide) ?_
        refine wp_icN_ne (pc' := 98) d_Mo_compared_82 (by decide) (by omega) (by omega) (fun h82 => ?_) (fun h82 => ?_)
        · refine wp_iload_n d_Mo_compared_98 rfl rfl ?_
          refine wp_iload_n d_Mo_compared_99 rfl rfl ?_
          refine wp_ic_le (pc' := 107) d_Mo_compared_100 (by decide) (fun h100 => ?_) (fun h100 => ?_)
          · refine wp_iconst (x := nI 0) d_Mo_compared_107 rfl ?_
            refine wp_isto4 d_Mo_compared_108 rfl ?_
            refine wp_iload d_Mo_compared_110 rfl ?_
            refine wp_ifN_eq (pc' := 119) d_Mo_compared_112 (by decide) (by omega) (fun _ => ?_) (fun q => absurd q (by decide))
            refine wp_iconst (x := nI 0) d_Mo_compared_119 rfl ?_
            refine wp_reti d_Mo_compared_120 rt_Mo_compared ?_
            exact fin w hw _ (by first | (subst h63; first | exact (jn_lt _ _).trans (bi_t (Int32.not_le.mp h68)) | exact (jn_lt _ _).trans (bi_f (Int32.not_lt.mpr h68))) | (subst h82; first | exact (jn_eq _ _).trans (bi_f h87) | exact (jn_eq _ _).trans (bi_t h87)) | (obtain rfl : s = 62 := (by omega); first | exact (jn_gt _ _).trans (bi_f (Int32.not_lt.mpr h100)) | exact (jn_gt _ _).trans (bi_t (Int32.not_le.mp h100))))
          · refine wp_iconst (x := nI 1) d_Mo_compared_103 rfl ?_
            refine wp_goto (pc' := 108) d_Mo_compared_104 (by decide) ?_
            refine wp_isto4 d_Mo_compared_108 rfl ?_
            refine wp_iload d_Mo_compared_110 rfl ?_
            refine wp_ifN_eq (pc' := 119) d_Mo_compared_112 (by decide) (by omega) (fun q => absurd q (by decide)) (fun _ => ?_)
            refine wp_iconst (x := nI 1) d_Mo_compared_115 rfl ?_
            refine wp_goto (pc' := 120) d_Mo_compared_116 (by decide) ?_
            refine wp_reti d_Mo_compared_120 rt_Mo_compared ?_
            exact fin w hw _ (by first | (subst h63; first | exact (jn_lt _ _).trans (bi_t (Int32.not_le.mp h68)) | exact (jn_lt _ _).trans (bi_f (Int32.not_lt.mpr h68))) | (subst h82; first | exact (jn_eq _ _).trans (bi_f h87) | exact (jn_eq _ _).trans (bi_t h87)) | (obtain rfl : s = 62 := (by omega); first | exact (jn_gt _ _).trans (bi_f (Int32.not_lt.mpr h100)) | exact (jn_gt _ _).trans (bi_t (Int32.not_le.mp h100))))
        · refine wp_iload_n d_Mo_compared_85 rfl rfl ?_
          refine wp_iload_n d_Mo_compared_86 rfl rfl ?_
          refine wp_ic_ne (pc' := 94) d_Mo_compared_87 (by decide) (fun h87 => ?_) (fun h87 => ?_)
          · refine wp_iconst (x := nI 0) d_Mo_compared_94 rfl ?_
            refine wp_goto (pc' := 108) d_Mo_compared_95 (by decide) ?_
            refine wp_isto4 d_Mo_compared_108 rfl ?_
            refine wp_iload d_Mo_compared_110 rfl ?_
            refine wp_ifN_eq (pc' := 119) d_Mo_compared_112 (by decide) (by omega) (fun _ => ?_) (fun q => absurd q (by decide))
            refine wp_iconst (x := nI 0) d_Mo_compared_119 rfl ?_
            refine wp_reti d_Mo_compared_120 rt_Mo_compared ?_
            exact fin w hw _ (by first | (subst h63; first | exact (jn_lt _ _).trans (bi_t (Int32.not_le.mp h68)) | exact (jn_lt _ _).trans (bi_f (Int32.not_lt.mpr h68))) | (subst h82; first | exact (jn_eq _ _).trans (bi_f h87) | exact (jn_eq _ _).trans (bi_t h87)) | (obtain rfl : s = 62 := (by omega); first | exact (jn_gt _ _).trans (bi_f (Int32.not_lt.mpr h100)) | exact (jn_gt _ _).trans (bi_t (Int32.not_le.mp h100))))
          · refine wp_iconst (x := nI 1) d_Mo_compared_90 rfl ?_
            refine wp_goto (pc' := 108) d_Mo_compared_91 (by decide) ?_
            refine wp_isto4 d_Mo_compared_108 rfl ?_
            refine wp_iload d_Mo_compared_110 rfl ?_
            refine wp_ifN_eq (pc' := 119) d_Mo_compared_112 (by decide) (by omega) (fun q => absurd q (by decide)) (fun _ => ?_)
            refine wp_iconst (x := nI 1) d_Mo_compared_115 rfl ?_
            refine wp_goto (pc' := 120) d_Mo_compared_116 (by decide) ?_
            refine wp_reti d_Mo_compared_120 rt_Mo_compared ?_
            exact fin w hw _ (by first | (subst h63; first | exact (jn_lt _ _).trans (bi_t (Int32.not_le.mp h68)) | exact (jn_lt _ _).trans (bi_f (Int32.not_lt.mpr h68))) | (subst h82; first | exact (jn_eq _ _).trans (bi_f h87) | exact (jn_eq _ _).trans (bi_t h87)) | (obtain rfl : s = 62 := (by omega); first | exact (jn_gt _ _).trans (bi_f (Int32.not_lt.mpr h100)) | exact (jn_gt _ _).trans (bi_t (Int32.not_le.mp h100))))
      · refine wp_iload_n d_Mo_compared_66 rfl rfl ?_
        refine wp_iload_n d_Mo_compared_67 rfl rfl ?_
        refine wp_ic_ge (pc' := 75) d_Mo_compared_68 (by decide) (fun h68 => ?_) (fun h68 => ?_)
        · refine wp_iconst (x := nI 0) d_Mo_compared_75 rfl ?_
          refine wp_goto (pc' := 108) d_Mo_compared_76 (by decide) ?_
          refine wp_isto4 d_Mo_compared_108 rfl ?_
          refine wp_iload d_Mo_compared_110 rfl ?_
          refine wp_ifN_eq (pc' := 119) d_Mo_compared_112 (by decide) (by omega) (fun _ => ?_) (fun q => absurd q (by decide))
          refine wp_iconst (x := nI 0) d_Mo_compared_119 rfl ?_
          refine wp_reti d_Mo_compared_120 rt_Mo_compared ?_
          exact fin w hw _ (by first | (subst h63; first | exact (jn_lt _ _).trans (bi_t (Int32.not_le.mp h68)) | exact (jn_lt _ _).trans (bi_f (Int32.not_lt.mpr h68))) | (subst h82; first | exact (jn_eq _ _).trans (bi_f h87) | exact (jn_eq _ _).trans (bi_t h87)) | (obtain rfl : s = 62 := (by omega); first | exact (jn_gt _ _).trans (bi_f (Int32.not_lt.mpr h100)) | exact (jn_gt _ _).trans (bi_t (Int32.not_le.mp h100))))
        · refine wp_iconst (x := nI 1) d_Mo_compared_71 rfl ?_
          refine wp_goto (pc' := 108) d_Mo_compared_72 (by decide) ?_
          refine wp_isto4 d_Mo_compared_108 rfl ?_
          refine wp_iload d_Mo_compared_110 rfl ?_
          refine wp_ifN_eq (pc' := 119) d_Mo_compared_112 (by decide) (by omega) (fun q => absurd q (by decide)) (fun _ => ?_)
          refine wp_iconst (x := nI 1) d_Mo_compared_115 rfl ?_
          refine wp_goto (pc' := 120) d_Mo_compared_116 (by decide) ?_
          refine wp_reti d_Mo_compared_120 rt_Mo_compared ?_
          exact fin w hw _ (by first | (subst h63; first | exact (jn_lt _ _).trans (bi_t (Int32.not_le.mp h68)) | exact (jn_lt _ _).trans (bi_f (Int32.not_lt.mpr h68))) | (subst h82; first | exact (jn_eq _ _).trans (bi_f h87) | exact (jn_eq _ _).trans (bi_t h87)) | (obtain rfl : s = 62 := (by omega); first | exact (jn_gt _ _).trans (bi_f (Int32.not_lt.mpr h100)) | exact (jn_gt _ _).trans (bi_t (Int32.not_le.mp h100))))
    have L23 : ¬ r.1 = true → wp d y_Mo_compared 23 [some (.ref 91), some (.int v), none, none, none] [] (ps S r.2.1 op r.1) Q := by
      intro h9
      refine wp_iconst (x := -1) d_Mo_compared_23 rfl ?_
      refine wp_iston2 d_Mo_compared_24 rfl ?_
      refine wp_iload_n d_Mo_compared_25 rfl rfl ?_
      refine wp_bipush (x := nI 60) d_Mo_compared_26 (by decide) ?_
      refine wp_ic_eq (pc' := 45) d_Mo_compared_28 (by decide) (fun h28 => absurd h28 (by decide)) (fun h28 => ?_)
      refine wp_iload_n d_Mo_compared_31 rfl rfl ?_
      refine wp_bipush (x := nI 61) d_Mo_compared_32 (by decide) ?_
      refine wp_ic_eq (pc' := 45) d_Mo_compared_34 (by decide) (fun h34 => absurd h34 (by decide)) (fun h34 => ?_)
      refine wp_iload_n d_Mo_compared_37 rfl rfl ?_
      refine wp_bipush (x := nI 62) d_Mo_compared_38 (by decide) ?_
      refine wp_ic_eq (pc' := 45) d_Mo_compared_40 (by decide) (fun h40 => absurd h40 (by decide)) (fun h40 => ?_)
      refine wp_iload_n d_Mo_compared_43 rfl rfl ?_
      refine wp_reti d_Mo_compared_44 rt_Mo_compared ?_
      exact ex (fun z => h9 z.1)
    refine wp_aload_n d_Mo_compared_5 rfl rfl ?_
    refine wp_getI d_Mo_compared_6 ow_Mo_compared fl_8_139 (O_91 _) rfl (rfl) ?_
    refine wp_ifB_eq (pc' := 23) d_Mo_compared_9 (by decide) (fun h9 => ?_) (fun h9 => ?_)
    · exact L23 h9
    · refine wp_aload_n d_Mo_compared_12 rfl rfl ?_
      refine wp_aload_n d_Mo_compared_13 rfl rfl ?_
      refine wp_getI d_Mo_compared_14 ow_Mo_compared fl_8_143 (O_91 _) rfl (rfl) ?_
      refine wp_invV d_Mo_compared_17 ow_Mo_compared lk_8_146 (by decide) mi_Mo_byteAt rfl rfl (Nat.le_of_ble_eq_true rfl) rfl (wp_isC (O_91 _)) (Nat.le_trans (show h_Mo_byteAt ≤ 3 from by decide) hd) (m_byteAt C _ _ _ _ (by omega) ?_)
      refine wp_Ki ?_
      refine wp_goto (pc' := 24) d_Mo_compared_20 (by decide) ?_
      refine wp_iston2 d_Mo_compared_24 rfl ?_
      refine wp_iload_n d_Mo_compared_25 rfl rfl ?_
      refine wp_bipush (x := nI 60) d_Mo_compared_26 (by decide) ?_
      refine wp_ic_eq (pc' := 45) d_Mo_compared_28 (by decide) (fun h28 => ?_) (fun h28 => ?_)
      · rw [h9]
        first
        | (rw [h28]; exact H45 60 h9 (Or.inl rfl) h28)
        | (rw [h34]; exact H45 61 h9 (Or.inr (Or.inl rfl)) h34)
        | (rw [h40]; exact H45 62 h9 (Or.inr (Or.inr rfl)) h40)
      · refine wp_iload_n d_Mo_compared_31 rfl rfl ?_
        refine wp_bipush (x := nI 61) d_Mo_compared_32 (by decide) ?_
        refine wp_ic_eq (pc' := 45) d_Mo_compared_34 (by decide) (fun h34 => ?_) (fun h34 => ?_)
        · rw [h9]
          first
          | (rw [h28]; exact H45 60 h9 (Or.inl rfl) h28)
          | (rw [h34]; exact H45 61 h9 (Or.inr (Or.inl rfl)) h34)
          | (rw [h40]; exact H45 62 h9 (Or.inr (Or.inr rfl)) h40)
        · refine wp_iload_n d_Mo_compared_37 rfl rfl ?_
          refine wp_bipush (x := nI 62) d_Mo_compared_38 (by decide) ?_
          refine wp_ic_eq (pc' := 45) d_Mo_compared_40 (by decide) (fun h40 => ?_) (fun h40 => ?_)
          · rw [h9]
            first
            | (rw [h28]; exact H45 60 h9 (Or.inl rfl) h28)
            | (rw [h34]; exact H45 61 h9 (Or.inr (Or.inl rfl)) h34)
            | (rw [h40]; exact H45 62 h9 (Or.inr (Or.inr rfl)) h40)
          · refine wp_iload_n d_Mo_compared_43 rfl rfl ?_
            refine wp_reti d_Mo_compared_44 rt_Mo_compared ?_
            exact ex (fun z => by rcases sp_op_2.mp z.2 with z | z | z; exact h28 z; exact h34 z; exact h40 z)
  refine cl_in ml_Mo_compared rfl rfl ?_
  refine wp_aload_n d_Mo_compared_0 rfl rfl ?_
  refine wp_invV d_Mo_compared_1 ow_Mo_compared lk_8_183 (by decide) mi_Mo_sum rfl rfl (Nat.le_of_ble_eq_true rfl) rfl (wp_isC (O_91 _)) (Nat.le_refl _) (ih5 k hk _ (fun w hw => ?_))
  refine wp_Ki ?_
  refine wp_iston1 d_Mo_compared_4 rfl ?_
  exact L w hw
theorem m_both_loop (C : ps_C S q u n a b c) {d f op : Nat} (hd : 3 ≤ d) (ih5 : ∀ k, k ≤ n → ps_T S q u n a b c d y_Mo_compared f 2 op k) : ∀ cc (r : sp_P) (v : Int32) (l2 : Option Value), r.2.1 ≤ n → (r.1 = true → n ≤ r.2.1 + cc) → (r.1 = true → ∀ St, sp_ex a b c r.2.2 St = v :: St) → (∀ v, ((ps_l q u n f 1 op cc r).1 = true → ∀ St, sp_ex a b c (ps_l q u n f 1 op cc r).2.2 St = v :: St) → Q (some (.int v)) (ps S (ps_l q u n f 1 op cc r).2.1 op (ps_l q u n f 1 op cc r).1)) → wp d y_Mo_both 5 [some (.ref 91), some (.int v), l2] [] (ps S r.2.1 op r.1) Q := by
  have hn := C.1.2
  intro cc
  induction cc with
  | zero =>
    intro r v l2 hr hc hv K
    refine wp_aload_n d_Mo_both_5 rfl rfl ?_
    refine wp_getI d_Mo_both_6 ow_Mo_both fl_8_139 (O_91 _) rfl (rfl) ?_
    refine wp_ifB_eq (pc' := 57) d_Mo_both_9 (by decide) (fun h9 => ?_) (fun h9 => ?_)
    · refine wp_iload_n d_Mo_both_57 rfl rfl ?_
      refine wp_reti d_Mo_both_58 rt_Mo_both ?_
      exact K v hv
    · refine wp_aload_n d_Mo_both_12 rfl rfl ?_
      refine wp_aload_n d_Mo_both_13 rfl rfl ?_
      refine wp_getI d_Mo_both_14 ow_Mo_both fl_8_143 (O_91 _) rfl (rfl) ?_
      refine wp_invV d_Mo_both_17 ow_Mo_both lk_8_146 (by decide) mi_Mo_byteAt rfl rfl (Nat.le_of_ble_eq_true rfl) rfl (wp_isC (O_91 _)) (Nat.le_trans (show h_Mo_byteAt ≤ 3 from by decide) hd) (m_byteAt C _ _ _ _ (by omega) ?_)
      refine wp_Ki ?_
      refine wp_bipush (x := nI 38) d_Mo_both_20 (by decide) ?_
      refine wp_ic_ne (pc' := 57) d_Mo_both_22 (by decide) (fun h22 => ?_) (fun h22 => absurd (ps_b_lt h22 (by decide)) (by have := hc h9; omega))
      refine wp_iload_n d_Mo_both_57 rfl rfl ?_
      refine wp_reti d_Mo_both_58 rt_Mo_both ?_
      exact K v hv
  | succ cc ih =>
    intro r v l2 hr hc hv K
    have step : ∀ s, r.1 = true → s < 256 → s ≠ 33 → ps_b q u n r.2.1 = nI s → sp_op 1 (nI s) = true → ∀ w, ((ps_p q u n f 2 op (r.2.1 + 1)).1 = true → ∀ St, sp_ex a b c (ps_p q u n f 2 op (r.2.1 + 1)).2.2 St = w :: St) → ∀ v' l2, sp_jn (nI s) v w = v' → wp d y_Mo_both 5 [some (.ref 91), some (.int v'), l2] [] (ps S (ps_nx q u n f 1 op r).2.1 op (ps_nx q u n f 1 op r).1) Q := by
      intro s h1 hs h33 e ho w hw v' l2 e'
      subst e'
      have h2 := sp_pr_le (q := q) (u := u) (n := n) f (1 + 1) op (r.2.1 + 1) (ps_b_lt e (by intro z; have h8 := congrArg Int32.toInt z; rw [nI_toInt (by omega), show (-1 : Int32).toInt = -1 from by decide] at h8; omega))
      rw [ps_l_s ⟨h1, by rw [e]; exact ho⟩] at K
      exact ih _ _ _ h2.2.1 (fun z => by have := hc h1; have := h2.2.2 z; dsimp only [ps_p] at *; omega) (fun z => ps_j hs h33 e (hv h1) (hw z)) K
    have hlt : ∀ s, s < 256 → ps_b q u n r.2.1 = nI s → r.2.1 + 1 ≤ n := by
      intro s hs e
      exact ps_b_lt e (by intro z; have h8 := congrArg Int32.toInt z; rw [nI_toInt (by omega), show (-1 : Int32).toInt = -1 from by decide] at h8; omega)
    refine wp_aload_n d_Mo_both_5 rfl rfl ?_
    refine wp_getI d_Mo_both_6 ow_Mo_both fl_8_139 (O_91 _) rfl (rfl) ?_
    refine wp_ifB_eq (pc' := 57) d_Mo_both_9 (by decide) (fun h9 => ?_) (fun h9 => ?_)
    · refine wp_iload_n d_Mo_both_57 rfl rfl ?_
      refine wp_reti d_Mo_both_58 rt_Mo_both ?_
      rw [ps_l_e (fun z => h9 z.1)] at K
      exact K v hv
    · refine wp_aload_n d_Mo_both_12 rfl rfl ?_
      refine wp_aload_n d_Mo_both_13 rfl rfl ?_
      refine wp_getI d_Mo_both_14 ow_Mo_both fl_8_143 (O_91 _) rfl (rfl) ?_
      refine wp_invV d_Mo_both_17 ow_Mo_both lk_8_146 (by decide) mi_Mo_byteAt rfl rfl (Nat.le_of_ble_eq_true rfl) rfl (wp_isC (O_91 _)) (Nat.le_trans (show h_Mo_byteAt ≤ 3 from by decide) hd) (m_byteAt C _ _ _ _ (by omega) ?_)
      refine wp_Ki ?_
      refine wp_bipush (x := nI 38) d_Mo_both_20 (by decide) ?_
      refine wp_ic_ne (pc' := 57) d_Mo_both_22 (by decide) (fun h22 => ?_) (fun h22 => ?_)
      · refine wp_iload_n d_Mo_both_57 rfl rfl ?_
        refine wp_reti d_Mo_both_58 rt_Mo_both ?_
        rw [ps_l_e (fun z => h22 (sp_op_1.mp z.2))] at K
        exact K v hv
      · rw [h9]
        refine wp_aload_n d_Mo_both_25 rfl rfl ?_
        refine wp_dup d_Mo_both_26 rfl ?_
        refine wp_getI d_Mo_both_27 ow_Mo_both fl_8_143 (O_91 _) rfl (rfl) ?_
        refine wp_iconst (x := nI 1) d_Mo_both_30 rfl ?_
        refine wp_iadd d_Mo_both_31 (nI_add _ _) ?_
        refine wp_put (ty := .int) d_Mo_both_32 ow_Mo_both fl_8_143 (by decide +kernel) (by decide +kernel) (O_91 _) rfl ⟨rfl, rfl⟩ ?_
        refine wp_eqS (ps_at _ _ _ _ _) ?_
        refine wp_aload_n d_Mo_both_35 rfl rfl ?_
        refine wp_invV d_Mo_both_36 ow_Mo_both lk_8_186 (by decide) mi_Mo_compared rfl rfl (Nat.le_of_ble_eq_true rfl) rfl (wp_isC (O_91 _)) (Nat.le_refl _) (ih5 _ (hlt 38 (by decide) h22) _ (fun w hw => ?_))
        refine wp_Ki ?_
        refine wp_iston2 d_Mo_both_39 rfl ?_
        refine wp_iload_n d_Mo_both_40 rfl rfl ?_
        refine wp_if_eq (pc' := 52) d_Mo_both_41 (by decide) (fun h41 => ?_) (fun h41 => ?_)
        · refine wp_iconst (x := nI 0) d_Mo_both_52 rfl ?_
          refine wp_iston1 d_Mo_both_53 rfl ?_
          refine wp_goto (pc' := 5) d_Mo_both_54 (by decide) ?_
          exact step 38 h9 (by decide) (by decide) h22 (sp_op_1.mpr rfl) w hw _ _ (by first | exact (jn_and _ _).trans (bi_f (fun z => z.1 h41)) | exact (jn_and _ _).trans (bi_f (fun z => z.2 h45)) | exact (jn_and _ _).trans (bi_t ⟨h41, h45⟩))
        · refine wp_iload_n d_Mo_both_44 rfl rfl ?_
          refine wp_if_eq (pc' := 52) d_Mo_both_45 (by decide) (fun h45 => ?_) (fun h45 => ?_)
          · refine wp_iconst (x := nI 0) d_Mo_both_52 rfl ?_
            refine wp_iston1 d_Mo_both_53 rfl ?_
            refine wp_goto (pc' := 5) d_Mo_both_54 (by decide) ?_
            exact step 38 h9 (by decide) (by decide) h22 (sp_op_1.mpr rfl) w hw _ _ (by first | exact (jn_and _ _).trans (bi_f (fun z => z.1 h41)) | exact (jn_and _ _).trans (bi_f (fun z => z.2 h45)) | exact (jn_and _ _).trans (bi_t ⟨h41, h45⟩))
          · refine wp_iconst (x := nI 1) d_Mo_both_48 rfl ?_
            refine wp_goto (pc' := 53) d_Mo_both_49 (by decide) ?_
            refine wp_iston1 d_Mo_both_53 rfl ?_
            refine wp_goto (pc' := 5) d_Mo_both_54 (by decide) ?_
            exact step 38 h9 (by decide) (by decide) h22 (sp_op_1.mpr rfl) w hw _ _ (by first | exact (jn_and _ _).trans (bi_f (fun z => z.1 h41)) | exact (jn_and _ _).trans (bi_f (fun z => z.2 h45)) | exact (jn_and _ _).trans (bi_t ⟨h41, h45⟩))
theorem m_both (C : ps_C S q u n a b c) {d f op k : Nat} (hd : 3 ≤ d) (hk : k ≤ n) (ih5 : ∀ k, k ≤ n → ps_T S q u n a b c d y_Mo_compared f 2 op k) : ps_T S q u n a b c (d + 1) y_Mo_both (f + 1) 1 op k := by
  intro Q K
  have hn := C.1.2
  have e : ps_p q u n (f + 1) 1 op k = ps_l q u n f 1 op 50 (ps_p q u n f 2 op k) := sp_pr_lv _ _ _ _ f 1 op k (by decide)
  rw [e] at K
  refine cl_in ml_Mo_both rfl rfl ?_
  refine wp_aload_n d_Mo_both_0 rfl rfl ?_
  refine wp_invV d_Mo_both_1 ow_Mo_both lk_8_186 (by decide) mi_Mo_compared rfl rfl (Nat.le_of_ble_eq_true rfl) rfl (wp_isC (O_91 _)) (Nat.le_refl _) (ih5 k hk _ (fun w hw => ?_))
  refine wp_Ki ?_
  refine wp_iston1 d_Mo_both_4 rfl ?_
  exact m_both_loop C hd ih5 50 _ _ _ (sp_pr_le f 2 op k hk).2.1 (fun _ => by omega) hw K
theorem m_whole_loop (C : ps_C S q u n a b c) {d f op : Nat} (hd : 3 ≤ d) (ih5 : ∀ k, k ≤ n → ps_T S q u n a b c d y_Mo_both f 1 op k) : ∀ cc (r : sp_P) (v : Int32) (l2 : Option Value), r.2.1 ≤ n → (r.1 = true → n ≤ r.2.1 + cc) → (r.1 = true → ∀ St, sp_ex a b c r.2.2 St = v :: St) → (∀ v, ((ps_l q u n f 0 op cc r).1 = true → ∀ St, sp_ex a b c (ps_l q u n f 0 op cc r).2.2 St = v :: St) → Q (some (.int v)) (ps S (ps_l q u n f 0 op cc r).2.1 op (ps_l q u n f 0 op cc r).1)) → wp d y_Mo_whole 5 [some (.ref 91), some (.int v), l2] [] (ps S r.2.1 op r.1) Q := by
  have hn := C.1.2
  intro cc
  induction cc with
  | zero =>
    intro r v l2 hr hc hv K
    refine wp_aload_n d_Mo_whole_5 rfl rfl ?_
    refine wp_getI d_Mo_whole_6 ow_Mo_whole fl_8_139 (O_91 _) rfl (rfl) ?_
    refine wp_ifB_eq (pc' := 57) d_Mo_whole_9 (by decide) (fun h9 => ?_) (fun h9 => ?_)
    · refine wp_iload_n d_Mo_whole_57 rfl rfl ?_
      refine wp_reti d_Mo_whole_58 rt_Mo_whole ?_
      exact K v hv
    · refine wp_aload_n d_Mo_whole_12 rfl rfl ?_
      refine wp_aload_n d_Mo_whole_13 rfl rfl ?_
      refine wp_getI d_Mo_whole_14 ow_Mo_whole fl_8_143 (O_91 _) rfl (rfl) ?_
      refine wp_invV d_Mo_whole_17 ow_Mo_whole lk_8_146 (by decide) mi_Mo_byteAt rfl rfl (Nat.le_of_ble_eq_true rfl) rfl (wp_isC (O_91 _)) (Nat.le_trans (show h_Mo_byteAt ≤ 3 from by decide) hd) (m_byteAt C _ _ _ _ (by omega) ?_)
      refine wp_Ki ?_
      refine wp_bipush (x := nI 124) d_Mo_whole_20 (by decide) ?_
      refine wp_ic_ne (pc' := 57) d_Mo_whole_22 (by decide) (fun h22 => ?_) (fun h22 => absurd (ps_b_lt h22 (by decide)) (by have := hc h9; omega))
      refine wp_iload_n d_Mo_whole_57 rfl rfl ?_
      refine wp_reti d_Mo_whole_58 rt_Mo_whole ?_
      exact K v hv
  | succ cc ih =>
    intro r v l2 hr hc hv K
    have step : ∀ s, r.1 = true → s < 256 → s ≠ 33 → ps_b q u n r.2.1 = nI s → sp_op 0 (nI s) = true → ∀ w, ((ps_p q u n f 1 op (r.2.1 + 1)).1 = true → ∀ St, sp_ex a b c (ps_p q u n f 1 op (r.2.1 + 1)).2.2 St = w :: St) → ∀ v' l2, sp_jn (nI s) v w = v' → wp d y_Mo_whole 5 [some (.ref 91), some (.int v'), l2] [] (ps S (ps_nx q u n f 0 op r).2.1 op (ps_nx q u n f 0 op r).1) Q := by
      intro s h1 hs h33 e ho w hw v' l2 e'
      subst e'
      have h2 := sp_pr_le (q := q) (u := u) (n := n) f (0 + 1) op (r.2.1 + 1) (ps_b_lt e (by intro z; have h8 := congrArg Int32.toInt z; rw [nI_toInt (by omega), show (-1 : Int32).toInt = -1 from by decide] at h8; omega))
      rw [ps_l_s ⟨h1, by rw [e]; exact ho⟩] at K
      exact ih _ _ _ h2.2.1 (fun z => by have := hc h1; have := h2.2.2 z; dsimp only [ps_p] at *; omega) (fun z => ps_j hs h33 e (hv h1) (hw z)) K
    have hlt : ∀ s, s < 256 → ps_b q u n r.2.1 = nI s → r.2.1 + 1 ≤ n := by
      intro s hs e
      exact ps_b_lt e (by intro z; have h8 := congrArg Int32.toInt z; rw [nI_toInt (by omega), show (-1 : Int32).toInt = -1 from by decide] at h8; omega)
    refine wp_aload_n d_Mo_whole_5 rfl rfl ?_
    refine wp_getI d_Mo_whole_6 ow_Mo_whole fl_8_139 (O_91 _) rfl (rfl) ?_
    refine wp_ifB_eq (pc' := 57) d_Mo_whole_9 (by decide) (fun h9 => ?_) (fun h9 => ?_)
    · refine wp_iload_n d_Mo_whole_57 rfl rfl ?_
      refine wp_reti d_Mo_whole_58 rt_Mo_whole ?_
      rw [ps_l_e (fun z => h9 z.1)] at K
      exact K v hv
    · refine wp_aload_n d_Mo_whole_12 rfl rfl ?_
      refine wp_aload_n d_Mo_whole_13 rfl rfl ?_
      refine wp_getI d_Mo_whole_14 ow_Mo_whole fl_8_143 (O_91 _) rfl (rfl) ?_
      refine wp_invV d_Mo_whole_17 ow_Mo_whole lk_8_146 (by decide) mi_Mo_byteAt rfl rfl (Nat.le_of_ble_eq_true rfl) rfl (wp_isC (O_91 _)) (Nat.le_trans (show h_Mo_byteAt ≤ 3 from by decide) hd) (m_byteAt C _ _ _ _ (by omega) ?_)
      refine wp_Ki ?_
      refine wp_bipush (x := nI 124) d_Mo_whole_20 (by decide) ?_
      refine wp_ic_ne (pc' := 57) d_Mo_whole_22 (by decide) (fun h22 => ?_) (fun h22 => ?_)
      · refine wp_iload_n d_Mo_whole_57 rfl rfl ?_
        refine wp_reti d_Mo_whole_58 rt_Mo_whole ?_
        rw [ps_l_e (fun z => h22 (sp_op_0.mp z.2))] at K
        exact K v hv
      · rw [h9]
        refine wp_aload_n d_Mo_whole_25 rfl rfl ?_
        refine wp_dup d_Mo_whole_26 rfl ?_
        refine wp_getI d_Mo_whole_27 ow_Mo_whole fl_8_143 (O_91 _) rfl (rfl) ?_
        refine wp_iconst (x := nI 1) d_Mo_whole_30 rfl ?_
        refine wp_iadd d_Mo_whole_31 (nI_add _ _) ?_
        refine wp_put (ty := .int) d_Mo_whole_32 ow_Mo_whole fl_8_143 (by decide +kernel) (by decide +kernel) (O_91 _) rfl ⟨rfl, rfl⟩ ?_
        refine wp_eqS (ps_at _ _ _ _ _) ?_
        refine wp_aload_n d_Mo_whole_35 rfl rfl ?_
        refine wp_invV d_Mo_whole_36 ow_Mo_whole lk_8_189 (by decide) mi_Mo_both rfl rfl (Nat.le_of_ble_eq_true rfl) rfl (wp_isC (O_91 _)) (Nat.le_refl _) (ih5 _ (hlt 124 (by decide) h22) _ (fun w hw => ?_))
        refine wp_Ki ?_
        refine wp_iston2 d_Mo_whole_39 rfl ?_
        refine wp_iload_n d_Mo_whole_40 rfl rfl ?_
        refine wp_if_ne (pc' := 48) d_Mo_whole_41 (by decide) (fun h41 => ?_) (fun h41 => ?_)
        · refine wp_iconst (x := nI 1) d_Mo_whole_48 rfl ?_
          refine wp_goto (pc' := 53) d_Mo_whole_49 (by decide) ?_
          refine wp_iston1 d_Mo_whole_53 rfl ?_
          refine wp_goto (pc' := 5) d_Mo_whole_54 (by decide) ?_
          exact step 124 h9 (by decide) (by decide) h22 (sp_op_0.mpr rfl) w hw _ _ (by first | exact (jn_or _ _).trans (bi_t (Or.inl h41)) | exact (jn_or _ _).trans (bi_t (Or.inr h45)) | exact (jn_or _ _).trans (bi_f (fun z => by rcases z with z | z; exact z h41; exact z h45)))
        · refine wp_iload_n d_Mo_whole_44 rfl rfl ?_
          refine wp_if_eq (pc' := 52) d_Mo_whole_45 (by decide) (fun h45 => ?_) (fun h45 => ?_)
          · refine wp_iconst (x := nI 0) d_Mo_whole_52 rfl ?_
            refine wp_iston1 d_Mo_whole_53 rfl ?_
            refine wp_goto (pc' := 5) d_Mo_whole_54 (by decide) ?_
            exact step 124 h9 (by decide) (by decide) h22 (sp_op_0.mpr rfl) w hw _ _ (by first | exact (jn_or _ _).trans (bi_t (Or.inl h41)) | exact (jn_or _ _).trans (bi_t (Or.inr h45)) | exact (jn_or _ _).trans (bi_f (fun z => by rcases z with z | z; exact z h41; exact z h45)))
          · refine wp_iconst (x := nI 1) d_Mo_whole_48 rfl ?_
            refine wp_goto (pc' := 53) d_Mo_whole_49 (by decide) ?_
            refine wp_iston1 d_Mo_whole_53 rfl ?_
            refine wp_goto (pc' := 5) d_Mo_whole_54 (by decide) ?_
            exact step 124 h9 (by decide) (by decide) h22 (sp_op_0.mpr rfl) w hw _ _ (by first | exact (jn_or _ _).trans (bi_t (Or.inl h41)) | exact (jn_or _ _).trans (bi_t (Or.inr h45)) | exact (jn_or _ _).trans (bi_f (fun z => by rcases z with z | z; exact z h41; exact z h45)))
theorem m_whole (C : ps_C S q u n a b c) {d f op k : Nat} (hd : 3 ≤ d) (hk : k ≤ n) (ih5 : ∀ k, k ≤ n → ps_T S q u n a b c d y_Mo_both f 1 op k) : ps_T S q u n a b c (d + 1) y_Mo_whole (f + 1) 0 op k := by
  intro Q K
  have hn := C.1.2
  have e : ps_p q u n (f + 1) 0 op k = ps_l q u n f 0 op 50 (ps_p q u n f 1 op k) := sp_pr_lv _ _ _ _ f 0 op k (by decide)
  rw [e] at K
  refine cl_in ml_Mo_whole rfl rfl ?_
  refine wp_aload_n d_Mo_whole_0 rfl rfl ?_
  refine wp_invV d_Mo_whole_1 ow_Mo_whole lk_8_189 (by decide) mi_Mo_both rfl rfl (Nat.le_of_ble_eq_true rfl) rfl (wp_isC (O_91 _)) (Nat.le_refl _) (ih5 k hk _ (fun w hw => ?_))
  refine wp_Ki ?_
  refine wp_iston1 d_Mo_whole_4 rfl ?_
  exact m_whole_loop C hd ih5 50 _ _ _ (sp_pr_le f 1 op k hk).2.1 (fun _ => by omega) hw K
end PL
