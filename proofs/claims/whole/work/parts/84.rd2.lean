/-! the class: the reader's levels -/
theorem sp_pr_s (by_ : Nat → Int32) (n0 n1 n2 : Int32) (f lv op k : Nat) : sp_pr by_ n0 n1 n2 (f + 1) lv op k = (if lv < 5 then sp_lp (fun k => sp_pr by_ n0 n1 n2 f (lv + 1) op k) (sp_op lv) by_ (if lv = 2 then 1 else 50) (sp_pr by_ n0 n1 n2 f (lv + 1) op k)
    else if sp_dg (by_ k) = true then (true, (sp_nu by_ 4 k 0).1, [(sp_nu by_ 4 k 0).2])
    else if by_ k = n0 then (true, k + 1, [10000])
    else if by_ k = n1 then (true, k + 1, [10001])
    else if by_ k = n2 then (true, k + 1, [10002])
    else if by_ k = 33 ∧ op < 5 then ((sp_pr by_ n0 n1 n2 f 5 (op + 1) (k + 1)).1, (sp_pr by_ n0 n1 n2 f 5 (op + 1) (k + 1)).2.1, (sp_pr by_ n0 n1 n2 f 5 (op + 1) (k + 1)).2.2 ++ [20033])
    else if by_ k = 40 ∧ op < 5 then
      (if (sp_pr by_ n0 n1 n2 f 0 (op + 1) (k + 1)).1 = true ∧ by_ (sp_pr by_ n0 n1 n2 f 0 (op + 1) (k + 1)).2.1 = 41 then (true, (sp_pr by_ n0 n1 n2 f 0 (op + 1) (k + 1)).2.1 + 1, (sp_pr by_ n0 n1 n2 f 0 (op + 1) (k + 1)).2.2)
      else (false, (sp_pr by_ n0 n1 n2 f 0 (op + 1) (k + 1)).2.1, (sp_pr by_ n0 n1 n2 f 0 (op + 1) (k + 1)).2.2))
    else (false, k, [])) := by rw [sp_pr]
theorem sp_lp_len {g : Nat → sp_P} {ops : Int32 → Bool} {by_ : Nat → Int32} (hg : ∀ k, k + (g k).2.2.length ≤ (g k).2.1) (k : Nat) : ∀ c (r : sp_P), k + r.2.2.length ≤ r.2.1 → k + (sp_lp g ops by_ c r).2.2.length ≤ (sp_lp g ops by_ c r).2.1
  | 0, r, h => by rw [sp_lp]; exact h
  | c + 1, r, h => by
    rw [sp_lp]
    split
    · refine sp_lp_len hg k c _ ?_
      have := hg (r.2.1 + 1)
      show k + (r.2.2 ++ (g (r.2.1 + 1)).2.2 ++ [20000 + by_ r.2.1]).length ≤ (g (r.2.1 + 1)).2.1
      rw [List.length_append, List.length_append, List.length_singleton]
      omega
    · exact h
theorem sp_nu_pos {by_ : Nat → Int32} {k : Nat} (h : sp_dg (by_ k) = true) (f : Nat) (v : Int32) : k + 1 ≤ (sp_nu by_ (f + 1) k v).1 := by
  rw [sp_nu, if_pos h]
  exact sp_nu_ps by_ f (k + 1) _
theorem sp_pr_len (by_ : Nat → Int32) (n0 n1 n2 : Int32) : ∀ f lv op k, k + (sp_pr by_ n0 n1 n2 f lv op k).2.2.length ≤ (sp_pr by_ n0 n1 n2 f lv op k).2.1 := by
  intro f
  induction f with
  | zero => exact fun lv op k => by rw [sp_pr]; exact Nat.le_refl _
  | succ f ih =>
    intro lv op k
    rw [sp_pr_s]
    by_cases h1 : lv < 5
    · rw [if_pos h1]
      exact sp_lp_len (ih (lv + 1) op) k _ _ (ih (lv + 1) op k)
    rw [if_neg h1]
    by_cases h2 : sp_dg (by_ k) = true
    · rw [if_pos h2]
      exact sp_nu_pos h2 3 0
    rw [if_neg h2]
    by_cases h3 : by_ k = n0
    · rw [if_pos h3]; exact Nat.le_refl _
    rw [if_neg h3]
    by_cases h4 : by_ k = n1
    · rw [if_pos h4]; exact Nat.le_refl _
    rw [if_neg h4]
    by_cases h5 : by_ k = n2
    · rw [if_pos h5]; exact Nat.le_refl _
    rw [if_neg h5]
    have a := ih 5 (op + 1) (k + 1)
    have b := ih 0 (op + 1) (k + 1)
    by_cases h6 : by_ k = 33 ∧ op < 5
    · rw [if_pos h6]
      show k + ((sp_pr by_ n0 n1 n2 f 5 (op + 1) (k + 1)).2.2 ++ [20033]).length ≤ _
      rw [List.length_append, List.length_singleton]
      show k + ((sp_pr by_ n0 n1 n2 f 5 (op + 1) (k + 1)).2.2.length + 1) ≤ (sp_pr by_ n0 n1 n2 f 5 (op + 1) (k + 1)).2.1
      omega
    rw [if_neg h6]
    by_cases h7 : by_ k = 40 ∧ op < 5
    · rw [if_pos h7]
      split
      · show k + (sp_pr by_ n0 n1 n2 f 0 (op + 1) (k + 1)).2.2.length ≤ (sp_pr by_ n0 n1 n2 f 0 (op + 1) (k + 1)).2.1 + 1
        omega
      · show k + (sp_pr by_ n0 n1 n2 f 0 (op + 1) (k + 1)).2.2.length ≤ (sp_pr by_ n0 n1 n2 f 0 (op + 1) (k + 1)).2.1
        omega
    rw [if_neg h7]
    exact Nat.le_refl _
def rEQ (op : Nat) : Nat := 7 + 8 * (5 - op)
/-- a level of the reader -/
def rL (q : sp_R) (u n f lv op d : Nat) : Prop := ∀ (k : Nat) (L : List Int32) (S : wp_S) (Q : Option Value → wp_S → Prop), k ≤ n → L.length ≤ k → rS S u n (sp_tx q u) k op true L → (∀ S', rS S' u n (sp_tx q u) (ps_p q u n f lv op k).2.1 op (ps_p q u n f lv op k).1 (L ++ (ps_p q u n f lv op k).2.2) → fr rD S S' → Q none S') → cl d y_Re_readLevel [.ref 65, .int (nI lv)] S Q
def rQ (q : sp_R) (u n f op d : Nat) : Prop := ∀ (k : Nat) (L : List Int32) (S : wp_S) (Q : Option Value → wp_S → Prop), k ≤ n → L.length ≤ k → rS S u n (sp_tx q u) k op true L → (∀ S', rS S' u n (sp_tx q u) (ps_p q u n f 5 op k).2.1 op (ps_p q u n f 5 op k).1 (L ++ (ps_p q u n f 5 op k).2.2) → fr rD S S' → Q none S') → cl d y_Re_readQ [.ref 65] S Q
/-- what stands behind a ! or a bracket -/
def rR (q : sp_R) (u n f op k : Nat) : sp_P := if ps_b q u n k = 33 then ((ps_p q u n f 5 op (k + 1)).1, (ps_p q u n f 5 op (k + 1)).2.1, (ps_p q u n f 5 op (k + 1)).2.2 ++ [20033]) else (if (ps_p q u n f 0 op (k + 1)).1 = true ∧ ps_b q u n (ps_p q u n f 0 op (k + 1)).2.1 = 41 then (true, (ps_p q u n f 0 op (k + 1)).2.1 + 1, (ps_p q u n f 0 op (k + 1)).2.2) else (false, (ps_p q u n f 0 op (k + 1)).2.1, (ps_p q u n f 0 op (k + 1)).2.2))
def rO (q : sp_R) (u n f op d : Nat) : Prop := ∀ (k : Nat) (L : List Int32) (S : wp_S) (Q : Option Value → wp_S → Prop), k < n → L.length ≤ k → ps_b q u n k = 33 ∨ ps_b q u n k = 40 → rS S u n (sp_tx q u) k op true L → (∀ S', rS S' u n (sp_tx q u) (rR q u n f op k).2.1 op (rR q u n f op k).1 (L ++ (rR q u n f op k).2.2) → fr rD S S' → Q none S') → cl d y_Re_readOpened [.ref 65] S Q
theorem by_ge' {tp : Nat → Int32} {n k : Nat} {x : Int32} (h : sp_by tp n k = x) (hx : x ≠ -1) : k < n := by
  by_cases g : k < n
  · exact g
  · rw [sp_by_ge g] at h
    exact absurd h.symm hx
section CZ
variable {q : sp_R} {u n : Nat}
theorem c_joins0 {S : wp_S} {Q : Option Value → wp_S → Prop} (K : Q (some (.ref 10006)) S) : cl h_Re_joinsOf y_Re_joinsOf [.int (nI 0)] S Q := by
  refine cl_in ml_Re_joinsOf rfl rfl ?_
  refine wp_iload_n d_Re_joinsOf_0 rfl rfl ?_
  refine wp_ts (pc' := 32) d_Re_joinsOf_1 (by decide) rfl (by decide) ?_
  refine wp_ldc (v := .ref 10006) d_Re_joinsOf_32 ow_Re_joinsOf (by decide +kernel) ?_
  refine wp_areturn d_Re_joinsOf_34 rt_Re_joinsOf ?_
  exact K
theorem c_lvl0 {f op d : Nat} (hd : 5 ≤ d) (hn : n ≤ 50) (hB : rB n (sp_tx q u)) (IH : rL q u n f 1 op d) {S : wp_S} {Q : Option Value → wp_S → Prop} (L0 : List Int32) (R : sp_P) (K : ∀ S', rS S' u n (sp_tx q u) R.2.1 op R.1 (L0 ++ R.2.2) → fr rD S S' → Q none S') : ∀ c j (r : sp_P) (S' : wp_S) (l4 : Option Value), j + c = 50 → sp_lp (fun k => ps_p q u n f 1 op k) (sp_op 0) (ps_b q u n) c r = R → r.2.1 ≤ n → L0.length + r.2.2.length ≤ r.2.1 → rS S' u n (sp_tx q u) r.2.1 op r.1 (L0 ++ r.2.2) → fr rD S S' → wp d y_Re_readLevel 31 [some (.ref 65), some (.int (nI 0)), some (.int (nI 50)), some (.int (nI j)), l4] [] S' Q := by
  intro c
  induction c with
  | zero =>
    intro j r S' l4 hj e h1 h2 h fS
    rw [sp_lp] at e
    subst e
    obtain rfl : j = 50 := by omega
    refine wp_iload_n d_Re_readLevel_31 rfl rfl ?_
    refine wp_iload_n d_Re_readLevel_32 rfl rfl ?_
    refine wp_icN_ge (pc' := 76) d_Re_readLevel_33 (by decide) (by omega) (by omega) (fun _ => ?_) (fun q => absurd q (by decide))
    refine wp_return d_Re_readLevel_76 rt_Re_readLevel ?_
    exact K S' h fS
  | succ c ih =>
    intro j r S' l4 hj e h1 h2 h fS
    rw [sp_lp] at e
    refine wp_iload_n d_Re_readLevel_31 rfl rfl ?_
    refine wp_iload_n d_Re_readLevel_32 rfl rfl ?_
    refine wp_icN_ge (pc' := 76) d_Re_readLevel_33 (by decide) (by omega) (by omega) (fun h33 => absurd h33 (by omega)) (fun h33 => ?_)
    refine wp_aload_n d_Re_readLevel_36 rfl rfl ?_
    refine wp_iload_n d_Re_readLevel_37 rfl rfl ?_
    refine wp_invS d_Re_readLevel_38 ow_Re_readLevel lk_3_54 (by decide) mi_Re_joinsOf rfl rfl (Nat.le_of_ble_eq_true rfl) rfl (Nat.le_trans (show h_Re_joinsOf ≤ 5 from by decide) hd) (c_joins0 ?_)
    refine wp_Kr ?_
    refine wp_invV d_Re_readLevel_41 ow_Re_readLevel lk_3_58 (by decide) mi_Re_isNextOf rfl rfl (Nat.le_of_ble_eq_true rfl) rfl (wp_isC (O_65 _)) (Nat.le_trans (show h_Re_isNextOf ≤ 5 from by decide) hd) (c_next6 h hn h1 hB (fun y => ?_) (fun y => ?_))
    · refine wp_Ki ?_
      have y2 := op_in0.mp y.2
      rw [if_pos ⟨y.1, y2⟩] at e
      have hk : r.2.1 < n := by
        by_cases g : r.2.1 < n
        · exact g
        · rw [sp_by_ge g] at y2
          exact absurd y2 (by decide)
      have hb : ps_b q u n r.2.1 = sp_tx q u r.2.1 := sp_by_lt hk
      have h' : rS S' u n (sp_tx q u) r.2.1 op true (L0 ++ r.2.2) := y.1 ▸ h
      have hl : (L0 ++ r.2.2).length ≤ r.2.1 := by rw [List.length_append]; exact h2
      have hlen : r.2.1 + 1 + (ps_p q u n f 1 op (r.2.1 + 1)).2.2.length ≤ (ps_p q u n f 1 op (r.2.1 + 1)).2.1 := sp_pr_len (ps_b q u n) (sp_n0 u) (sp_n1 u) (sp_n2 u) f 1 op (r.2.1 + 1)
      have hle := (sp_pr_le (q := q) (u := u) (n := n) f 1 op (r.2.1 + 1) (by omega)).2.1
      have IH' := fun S Q => IH (r.2.1 + 1) (L0 ++ r.2.2) S Q (by omega) (by omega)
      have ih := fun S' l4 => ih (j + 1) ((ps_p q u n f 1 op (r.2.1 + 1)).1, (ps_p q u n f 1 op (r.2.1 + 1)).2.1, r.2.2 ++ (ps_p q u n f 1 op (r.2.1 + 1)).2.2 ++ [20000 + ps_b q u n r.2.1]) S' l4 (by omega) e hle (by
        show L0.length + (r.2.2 ++ (ps_p q u n f 1 op (r.2.1 + 1)).2.2 ++ [20000 + ps_b q u n r.2.1]).length ≤ (ps_p q u n f 1 op (r.2.1 + 1)).2.1
        rw [List.length_append, List.length_append, List.length_singleton]
        omega)
      have ea : L0 ++ (r.2.2 ++ (ps_p q u n f 1 op (r.2.1 + 1)).2.2 ++ [20000 + ps_b q u n r.2.1]) = L0 ++ r.2.2 ++ (ps_p q u n f 1 op (r.2.1 + 1)).2.2 ++ [nI 20000 + sp_tx q u r.2.1] := by
        rw [hb]
        simp only [List.append_assoc]
        rfl
      have ih : ∀ S' l4, rS S' u n (sp_tx q u) (ps_p q u n f 1 op (r.2.1 + 1)).2.1 op (ps_p q u n f 1 op (r.2.1 + 1)).1 (L0 ++ r.2.2 ++ (ps_p q u n f 1 op (r.2.1 + 1)).2.2 ++ [nI 20000 + sp_tx q u r.2.1]) → fr rD S S' → wp d y_Re_readLevel 31 [some (.ref 65), some (.int (nI 0)), some (.int (nI 50)), some (.int (nI (j + 1))), l4] [] S' Q := fun S' l4 h => ih S' l4 (ea ▸ h)
      clear e ea
      have hpl : (L0 ++ r.2.2 ++ (ps_p q u n f 1 op (r.2.1 + 1)).2.2).length < 50 := by
        rw [List.length_append]
        omega
      refine wp_ifN_eq (pc' := 76) d_Re_readLevel_44 (by decide) (by omega) (fun q => absurd q (by decide)) (fun _ => ?_)
      refine wp_aload_n d_Re_readLevel_47 rfl rfl ?_
      refine wp_invV d_Re_readLevel_48 ow_Re_readLevel lk_3_62 (by decide) mi_Re_take rfl rfl (Nat.le_of_ble_eq_true rfl) rfl (wp_isC (O_65 _)) (Nat.le_trans (show h_Re_take ≤ 5 from by decide) hd) (c_take h' hn hk ?_)
      refine wp_Ki ?_
      refine wp_isto4 d_Re_readLevel_51 rfl ?_
      refine wp_aload_n d_Re_readLevel_53 rfl rfl ?_
      refine wp_iload_n d_Re_readLevel_54 rfl rfl ?_
      refine wp_iconst (x := nI 1) d_Re_readLevel_55 rfl ?_
      refine wp_iadd d_Re_readLevel_56 (nI_add _ _) ?_
      refine wp_invV d_Re_readLevel_57 ow_Re_readLevel lk_3_47 (by decide) mi_Re_readLevel rfl rfl (Nat.le_of_ble_eq_true rfl) rfl (wp_isC (O_65 _)) (Nat.le_refl _) (IH' _ _ (rS_at h' (r.2.1 + 1)) (fun S3 h3 f3 => ?_))
      refine wp_Kv ?_
      refine wp_aload_n d_Re_readLevel_60 rfl rfl ?_
      refine wp_sipush (x := nI 20000) d_Re_readLevel_61 (by decide) ?_
      refine wp_iload d_Re_readLevel_64 rfl ?_
      refine wp_iadd d_Re_readLevel_66 rfl ?_
      refine wp_invV d_Re_readLevel_67 ow_Re_readLevel lk_3_68 (by decide) mi_Re_emit rfl rfl (Nat.le_of_ble_eq_true rfl) rfl (wp_isC (O_65 _)) (Nat.le_trans (show h_Re_emit ≤ 5 from by decide) hd) (c_emit h3 hpl _ ?_)
      refine wp_Kv ?_
      refine wp_iinc3 d_Re_readLevel_70 rfl (nI_add _ 1) ?_
      refine wp_goto (pc' := 31) d_Re_readLevel_73 (by decide) ?_
      exact ih _ _ (rS_em h3 _) ((((rD_u fS).tr f3).up (Or.inr rfl)).up (Or.inl rfl))
    · refine wp_Ki ?_
      rw [if_neg (fun g => y ⟨g.1, op_in0.mpr g.2⟩)] at e
      subst e
      refine wp_ifN_eq (pc' := 76) d_Re_readLevel_44 (by decide) (by omega) (fun _ => ?_) (fun q => absurd q (by decide))
      refine wp_return d_Re_readLevel_76 rt_Re_readLevel ?_
      exact K S' h fS
theorem c_lv0 {f op d : Nat} (hd : 5 ≤ d) (hn : n ≤ 50) (hB : rB n (sp_tx q u)) (IH : rL q u n f 1 op d) : rL q u n (f + 1) 0 op (d + 1) := by
  intro k L S Q hk hL h K
  have e : ps_p q u n (f + 1) 0 op k = sp_lp (fun k => ps_p q u n f 1 op k) (sp_op 0) (ps_b q u n) 50 (ps_p q u n f 1 op k) := by
    show sp_pr _ _ _ _ (f + 1) 0 op k = _
    rw [sp_pr_s, if_pos (by decide), if_neg (by decide)]
  rw [e] at K
  have hlen := sp_pr_len (ps_b q u n) (sp_n0 u) (sp_n1 u) (sp_n2 u) f 1 op k
  have hlen : k + (ps_p q u n f 1 op k).2.2.length ≤ (ps_p q u n f 1 op k).2.1 := hlen
  have hle := (sp_pr_le (q := q) (u := u) (n := n) f 1 op k hk).2.1
  refine cl_in ml_Re_readLevel rfl rfl ?_
  refine wp_iload_n d_Re_readLevel_0 rfl rfl ?_
  refine wp_iconst (x := nI 5) d_Re_readLevel_1 rfl ?_
  refine wp_icN_lt (pc' := 10) d_Re_readLevel_2 (by decide) (by omega) (by omega) (fun _ => ?_) (fun q => absurd q (by decide))
  refine wp_aload_n d_Re_readLevel_10 rfl rfl ?_
  refine wp_iload_n d_Re_readLevel_11 rfl rfl ?_
  refine wp_iconst (x := nI 1) d_Re_readLevel_12 rfl ?_
  refine wp_iadd d_Re_readLevel_13 (nI_add _ _) ?_
  refine wp_invV d_Re_readLevel_14 ow_Re_readLevel lk_3_47 (by decide) mi_Re_readLevel rfl rfl (Nat.le_of_ble_eq_true rfl) rfl (wp_isC (O_65 _)) (Nat.le_refl _) (IH k L S _ hk hL h (fun S2 h2 f2 => ?_))
  refine wp_Kv ?_
  refine wp_iload_n d_Re_readLevel_17 rfl rfl ?_
  refine wp_iconst (x := nI 2) d_Re_readLevel_18 rfl ?_
  refine wp_icN_ne (pc' := 26) d_Re_readLevel_19 (by decide) (by omega) (by omega) (fun _ => ?_) (fun q => absurd q (by decide))
  refine wp_bipush (x := nI 50) d_Re_readLevel_26 (by decide) ?_
  refine wp_iston2 d_Re_readLevel_28 rfl ?_
  refine wp_iconst (x := nI 0) d_Re_readLevel_29 rfl ?_
  refine wp_iston3 d_Re_readLevel_30 rfl ?_
  exact c_lvl0 (S := S) hd hn hB IH L _ K 50 0 (ps_p q u n f 1 op k) S2 _ rfl rfl hle (by omega) h2 f2
theorem c_joins1 {S : wp_S} {Q : Option Value → wp_S → Prop} (K : Q (some (.ref 10007)) S) : cl h_Re_joinsOf y_Re_joinsOf [.int (nI 1)] S Q := by
  refine cl_in ml_Re_joinsOf rfl rfl ?_
  refine wp_iload_n d_Re_joinsOf_0 rfl rfl ?_
  refine wp_ts (pc' := 35) d_Re_joinsOf_1 (by decide) rfl (by decide) ?_
  refine wp_ldc (v := .ref 10007) d_Re_joinsOf_35 ow_Re_joinsOf (by decide +kernel) ?_
  refine wp_areturn d_Re_joinsOf_37 rt_Re_joinsOf ?_
  exact K
theorem c_lvl1 {f op d : Nat} (hd : 5 ≤ d) (hn : n ≤ 50) (hB : rB n (sp_tx q u)) (IH : rL q u n f 2 op d) {S : wp_S} {Q : Option Value → wp_S → Prop} (L0 : List Int32) (R : sp_P) (K : ∀ S', rS S' u n (sp_tx q u) R.2.1 op R.1 (L0 ++ R.2.2) → fr rD S S' → Q none S') : ∀ c j (r : sp_P) (S' : wp_S) (l4 : Option Value), j + c = 50 → sp_lp (fun k => ps_p q u n f 2 op k) (sp_op 1) (ps_b q u n) c r = R → r.2.1 ≤ n → L0.length + r.2.2.length ≤ r.2.1 → rS S' u n (sp_tx q u) r.2.1 op r.1 (L0 ++ r.2.2) → fr rD S S' → wp d y_Re_readLevel 31 [some (.ref 65), some (.int (nI 1)), some (.int (nI 50)), some (.int (nI j)), l4] [] S' Q := by
  intro c
  induction c with
  | zero =>
    intro j r S' l4 hj e h1 h2 h fS
    rw [sp_lp] at e
    subst e
    obtain rfl : j = 50 := by omega
    refine wp_iload_n d_Re_readLevel_31 rfl rfl ?_
    refine wp_iload_n d_Re_readLevel_32 rfl rfl ?_
    refine wp_icN_ge (pc' := 76) d_Re_readLevel_33 (by decide) (by omega) (by omega) (fun _ => ?_) (fun q => absurd q (by decide))
    refine wp_return d_Re_readLevel_76 rt_Re_readLevel ?_
    exact K S' h fS
  | succ c ih =>
    intro j r S' l4 hj e h1 h2 h fS
    rw [sp_lp] at e
    refine wp_iload_n d_Re_readLevel_31 rfl rfl ?_
    refine wp_iload_n d_Re_readLevel_32 rfl rfl ?_
    refine wp_icN_ge (pc' := 76) d_Re_readLevel_33 (by decide) (by omega) (by omega) (fun h33 => absurd h33 (by omega)) (fun h33 => ?_)
    refine wp_aload_n d_Re_readLevel_36 rfl rfl ?_
    refine wp_iload_n d_Re_readLevel_37 rfl rfl ?_
    refine wp_invS d_Re_readLevel_38 ow_Re_readLevel lk_3_54 (by decide) mi_Re_joinsOf rfl rfl (Nat.le_of_ble_eq_true rfl) rfl (Nat.le_trans (show h_Re_joinsOf ≤ 5 from by decide) hd) (c_joins1 ?_)
    refine wp_Kr ?_
    refine wp_invV d_Re_readLevel_41 ow_Re_readLevel lk_3_58 (by decide) mi_Re_isNextOf rfl rfl (Nat.le_of_ble_eq_true rfl) rfl (wp_isC (O_65 _)) (Nat.le_trans (show h_Re_isNextOf ≤ 5 from by decide) hd) (c_next7 h hn h1 hB (fun y => ?_) (fun y => ?_))
    · refine wp_Ki ?_
      have y2 := op_in1.mp y.2
      rw [if_pos ⟨y.1, y2⟩] at e
      have hk : r.2.1 < n := by
        by_cases g : r.2.1 < n
        · exact g
        · rw [sp_by_ge g] at y2
          exact absurd y2 (by decide)
      have hb : ps_b q u n r.2.1 = sp_tx q u r.2.1 := sp_by_lt hk
      have h' : rS S' u n (sp_tx q u) r.2.1 op true (L0 ++ r.2.2) := y.1 ▸ h
      have hl : (L0 ++ r.2.2).length ≤ r.2.1 := by rw [List.length_append]; exact h2
      have hlen : r.2.1 + 1 + (ps_p q u n f 2 op (r.2.1 + 1)).2.2.length ≤ (ps_p q u n f 2 op (r.2.1 + 1)).2.1 := sp_pr_len (ps_b q u n) (sp_n0 u) (sp_n1 u) (sp_n2 u) f 2 op (r.2.1 + 1)
      have hle := (sp_pr_le (q := q) (u := u) (n := n) f 2 op (r.2.1 + 1) (by omega)).2.1
      have IH' := fun S Q => IH (r.2.1 + 1) (L0 ++ r.2.2) S Q (by omega) (by omega)
      have ih := fun S' l4 => ih (j + 1) ((ps_p q u n f 2 op (r.2.1 + 1)).1, (ps_p q u n f 2 op (r.2.1 + 1)).2.1, r.2.2 ++ (ps_p q u n f 2 op (r.2.1 + 1)).2.2 ++ [20000 + ps_b q u n r.2.1]) S' l4 (by omega) e hle (by
        show L0.length + (r.2.2 ++ (ps_p q u n f 2 op (r.2.1 + 1)).2.2 ++ [20000 + ps_b q u n r.2.1]).length ≤ (ps_p q u n f 2 op (r.2.1 + 1)).2.1
        rw [List.length_append, List.length_append, List.length_singleton]
        omega)
      have ea : L0 ++ (r.2.2 ++ (ps_p q u n f 2 op (r.2.1 + 1)).2.2 ++ [20000 + ps_b q u n r.2.1]) = L0 ++ r.2.2 ++ (ps_p q u n f 2 op (r.2.1 + 1)).2.2 ++ [nI 20000 + sp_tx q u r.2.1] := by
        rw [hb]
        simp only [List.append_assoc]
        rfl
      have ih : ∀ S' l4, rS S' u n (sp_tx q u) (ps_p q u n f 2 op (r.2.1 + 1)).2.1 op (ps_p q u n f 2 op (r.2.1 + 1)).1 (L0 ++ r.2.2 ++ (ps_p q u n f 2 op (r.2.1 + 1)).2.2 ++ [nI 20000 + sp_tx q u r.2.1]) → fr rD S S' → wp d y_Re_readLevel 31 [some (.ref 65), some (.int (nI 1)), some (.int (nI 50)), some (.int (nI (j + 1))), l4] [] S' Q := fun S' l4 h => ih S' l4 (ea ▸ h)
      clear e ea
      have hpl : (L0 ++ r.2.2 ++ (ps_p q u n f 2 op (r.2.1 + 1)).2.2).length < 50 := by
        rw [List.length_append]
        omega
      refine wp_ifN_eq (pc' := 76) d_Re_readLevel_44 (by decide) (by omega) (fun q => absurd q (by decide)) (fun _ => ?_)
      refine wp_aload_n d_Re_readLevel_47 rfl rfl ?_
      refine wp_invV d_Re_readLevel_48 ow_Re_readLevel lk_3_62 (by decide) mi_Re_take rfl rfl (Nat.le_of_ble_eq_true rfl) rfl (wp_isC (O_65 _)) (Nat.le_trans (show h_Re_take ≤ 5 from by decide) hd) (c_take h' hn hk ?_)
      refine wp_Ki ?_
      refine wp_isto4 d_Re_readLevel_51 rfl ?_
      refine wp_aload_n d_Re_readLevel_53 rfl rfl ?_
      refine wp_iload_n d_Re_readLevel_54 rfl rfl ?_
      refine wp_iconst (x := nI 1) d_Re_readLevel_55 rfl ?_
      refine wp_iadd d_Re_readLevel_56 (nI_add _ _) ?_
      refine wp_invV d_Re_readLevel_57 ow_Re_readLevel lk_3_47 (by decide) mi_Re_readLevel rfl rfl (Nat.le_of_ble_eq_true rfl) rfl (wp_isC (O_65 _)) (Nat.le_refl _) (IH' _ _ (rS_at h' (r.2.1 + 1)) (fun S3 h3 f3 => ?_))
      refine wp_Kv ?_
      refine wp_aload_n d_Re_readLevel_60 rfl rfl ?_
      refine wp_sipush (x := nI 20000) d_Re_readLevel_61 (by decide) ?_
      refine wp_iload d_Re_readLevel_64 rfl ?_
      refine wp_iadd d_Re_readLevel_66 rfl ?_
      refine wp_invV d_Re_readLevel_67 ow_Re_readLevel lk_3_68 (by decide) mi_Re_emit rfl rfl (Nat.le_of_ble_eq_true rfl) rfl (wp_isC (O_65 _)) (Nat.le_trans (show h_Re_emit ≤ 5 from by decide) hd) (c_emit h3 hpl _ ?_)
      refine wp_Kv ?_
      refine wp_iinc3 d_Re_readLevel_70 rfl (nI_add _ 1) ?_
      refine wp_goto (pc' := 31) d_Re_readLevel_73 (by decide) ?_
      exact ih _ _ (rS_em h3 _) ((((rD_u fS).tr f3).up (Or.inr rfl)).up (Or.inl rfl))
    · refine wp_Ki ?_
      rw [if_neg (fun g => y ⟨g.1, op_in1.mpr g.2⟩)] at e
      subst e
      refine wp_ifN_eq (pc' := 76) d_Re_readLevel_44 (by decide) (by omega) (fun _ => ?_) (fun q => absurd q (by decide))
      refine wp_return d_Re_readLevel_76 rt_Re_readLevel ?_
      exact K S' h fS
theorem c_lv1 {f op d : Nat} (hd : 5 ≤ d) (hn : n ≤ 50) (hB : rB n (sp_tx q u)) (IH : rL q u n f 2 op d) : rL q u n (f + 1) 1 op (d + 1) := by
  intro k L S Q hk hL h K
  have e : ps_p q u n (f + 1) 1 op k = sp_lp (fun k => ps_p q u n f 2 op k) (sp_op 1) (ps_b q u n) 50 (ps_p q u n f 2 op k) := by
    show sp_pr _ _ _ _ (f + 1) 1 op k = _
    rw [sp_pr_s, if_pos (by decide), if_neg (by decide)]
  rw [e] at K
  have hlen := sp_pr_len (ps_b q u n) (sp_n0 u) (sp_n1 u) (sp_n2 u) f 2 op k
  have hlen : k + (ps_p q u n f 2 op k).2.2.length ≤ (ps_p q u n f 2 op k).2.1 := hlen
  have hle := (sp_pr_le (q := q) (u := u) (n := n) f 2 op k hk).2.1
  refine cl_in ml_Re_readLevel rfl rfl ?_
  refine wp_iload_n d_Re_readLevel_0 rfl rfl ?_
  refine wp_iconst (x := nI 5) d_Re_readLevel_1 rfl ?_
  refine wp_icN_lt (pc' := 10) d_Re_readLevel_2 (by decide) (by omega) (by omega) (fun _ => ?_) (fun q => absurd q (by decide))
  refine wp_aload_n d_Re_readLevel_10 rfl rfl ?_
  refine wp_iload_n d_Re_readLevel_11 rfl rfl ?_
  refine wp_iconst (x := nI 1) d_Re_readLevel_12 rfl ?_
  refine wp_iadd d_Re_readLevel_13 (nI_add _ _) ?_
  refine wp_invV d_Re_readLevel_14 ow_Re_readLevel lk_3_47 (by decide) mi_Re_readLevel rfl rfl (Nat.le_of_ble_eq_true rfl) rfl (wp_isC (O_65 _)) (Nat.le_refl _) (IH k L S _ hk hL h (fun S2 h2 f2 => ?_))
  refine wp_Kv ?_
  refine wp_iload_n d_Re_readLevel_17 rfl rfl ?_
  refine wp_iconst (x := nI 2) d_Re_readLevel_18 rfl ?_
  refine wp_icN_ne (pc' := 26) d_Re_readLevel_19 (by decide) (by omega) (by omega) (fun _ => ?_) (fun q => absurd q (by decide))
  refine wp_bipush (x := nI 50) d_Re_readLevel_26 (by decide) ?_
  refine wp_iston2 d_Re_readLevel_28 rfl ?_
  refine wp_iconst (x := nI 0) d_Re_readLevel_29 rfl ?_
  refine wp_iston3 d_Re_readLevel_30 rfl ?_
  exact c_lvl1 (S := S) hd hn hB IH L _ K 50 0 (ps_p q u n f 2 op k) S2 _ rfl rfl hle (by omega) h2 f2
theorem c_joins2 {S : wp_S} {Q : Option Value → wp_S → Prop} (K : Q (some (.ref 10008)) S) : cl h_Re_joinsOf y_Re_joinsOf [.int (nI 2)] S Q := by
  refine cl_in ml_Re_joinsOf rfl rfl ?_
  refine wp_iload_n d_Re_joinsOf_0 rfl rfl ?_
  refine wp_ts (pc' := 38) d_Re_joinsOf_1 (by decide) rfl (by decide) ?_
  refine wp_ldc (v := .ref 10008) d_Re_joinsOf_38 ow_Re_joinsOf (by decide +kernel) ?_
  refine wp_areturn d_Re_joinsOf_40 rt_Re_joinsOf ?_
  exact K
theorem c_lvl2 {f op d : Nat} (hd : 5 ≤ d) (hn : n ≤ 50) (hB : rB n (sp_tx q u)) (IH : rL q u n f 3 op d) {S : wp_S} {Q : Option Value → wp_S → Prop} (L0 : List Int32) (R : sp_P) (K : ∀ S', rS S' u n (sp_tx q u) R.2.1 op R.1 (L0 ++ R.2.2) → fr rD S S' → Q none S') : ∀ c j (r : sp_P) (S' : wp_S) (l4 : Option Value), j + c = 1 → sp_lp (fun k => ps_p q u n f 3 op k) (sp_op 2) (ps_b q u n) c r = R → r.2.1 ≤ n → L0.length + r.2.2.length ≤ r.2.1 → rS S' u n (sp_tx q u) r.2.1 op r.1 (L0 ++ r.2.2) → fr rD S S' → wp d y_Re_readLevel 31 [some (.ref 65), some (.int (nI 2)), some (.int (nI 1)), some (.int (nI j)), l4] [] S' Q := by
  intro c
  induction c with
  | zero =>
    intro j r S' l4 hj e h1 h2 h fS
    rw [sp_lp] at e
    subst e
    obtain rfl : j = 1 := by omega
    refine wp_iload_n d_Re_readLevel_31 rfl rfl ?_
    refine wp_iload_n d_Re_readLevel_32 rfl rfl ?_
    refine wp_icN_ge (pc' := 76) d_Re_readLevel_33 (by decide) (by omega) (by omega) (fun _ => ?_) (fun q => absurd q (by decide))
    refine wp_return d_Re_readLevel_76 rt_Re_readLevel ?_
    exact K S' h fS
  | succ c ih =>
    intro j r S' l4 hj e h1 h2 h fS
    rw [sp_lp] at e
    refine wp_iload_n d_Re_readLevel_31 rfl rfl ?_
    refine wp_iload_n d_Re_readLevel_32 rfl rfl ?_
    refine wp_icN_ge (pc' := 76) d_Re_readLevel_33 (by decide) (by omega) (by omega) (fun h33 => absurd h33 (by omega)) (fun h33 => ?_)
    refine wp_aload_n d_Re_readLevel_36 rfl rfl ?_
    refine wp_iload_n d_Re_readLevel_37 rfl rfl ?_
    refine wp_invS d_Re_readLevel_38 ow_Re_readLevel lk_3_54 (by decide) mi_Re_joinsOf rfl rfl (Nat.le_of_ble_eq_true rfl) rfl (Nat.le_trans (show h_Re_joinsOf ≤ 5 from by decide) hd) (c_joins2 ?_)
    refine wp_Kr ?_
    refine wp_invV d_Re_readLevel_41 ow_Re_readLevel lk_3_58 (by decide) mi_Re_isNextOf rfl rfl (Nat.le_of_ble_eq_true rfl) rfl (wp_isC (O_65 _)) (Nat.le_trans (show h_Re_isNextOf ≤ 5 from by decide) hd) (c_next8 h hn h1 hB (fun y => ?_) (fun y => ?_))
    · refine wp_Ki ?_
      have y2 := op_in2.mp y.2
      rw [if_pos ⟨y.1, y2⟩] at e
      have hk : r.2.1 < n := by
        by_cases g : r.2.1 < n
        · exact g
        · rw [sp_by_ge g] at y2
          exact absurd y2 (by decide)
      have hb : ps_b q u n r.2.1 = sp_tx q u r.2.1 := sp_by_lt hk
      have h' : rS S' u n (sp_tx q u) r.2.1 op true (L0 ++ r.2.2) := y.1 ▸ h
      have hl : (L0 ++ r.2.2).length ≤ r.2.1 := by rw [List.length_append]; exact h2
      have hlen : r.2.1 + 1 + (ps_p q u n f 3 op (r.2.1 + 1)).2.2.length ≤ (ps_p q u n f 3 op (r.2.1 + 1)).2.1 := sp_pr_len (ps_b q u n) (sp_n0 u) (sp_n1 u) (sp_n2 u) f 3 op (r.2.1 + 1)
      have hle := (sp_pr_le (q := q) (u := u) (n := n) f 3 op (r.2.1 + 1) (by omega)).2.1
      have IH' := fun S Q => IH (r.2.1 + 1) (L0 ++ r.2.2) S Q (by omega) (by omega)
      have ih := fun S' l4 => ih (j + 1) ((ps_p q u n f 3 op (r.2.1 + 1)).1, (ps_p q u n f 3 op (r.2.1 + 1)).2.1, r.2.2 ++ (ps_p q u n f 3 op (r.2.1 + 1)).2.2 ++ [20000 + ps_b q u n r.2.1]) S' l4 (by omega) e hle (by
        show L0.length + (r.2.2 ++ (ps_p q u n f 3 op (r.2.1 + 1)).2.2 ++ [20000 + ps_b q u n r.2.1]).length ≤ (ps_p q u n f 3 op (r.2.1 + 1)).2.1
        rw [List.length_append, List.length_append, List.length_singleton]
        omega)
      have ea : L0 ++ (r.2.2 ++ (ps_p q u n f 3 op (r.2.1 + 1)).2.2 ++ [20000 + ps_b q u n r.2.1]) = L0 ++ r.2.2 ++ (ps_p q u n f 3 op (r.2.1 + 1)).2.2 ++ [nI 20000 + sp_tx q u r.2.1] := by
        rw [hb]
        simp only [List.append_assoc]
        rfl
      have ih : ∀ S' l4, rS S' u n (sp_tx q u) (ps_p q u n f 3 op (r.2.1 + 1)).2.1 op (ps_p q u n f 3 op (r.2.1 + 1)).1 (L0 ++ r.2.2 ++ (ps_p q u n f 3 op (r.2.1 + 1)).2.2 ++ [nI 20000 + sp_tx q u r.2.1]) → fr rD S S' → wp d y_Re_readLevel 31 [some (.ref 65), some (.int (nI 2)), some (.int (nI 1)), some (.int (nI (j + 1))), l4] [] S' Q := fun S' l4 h => ih S' l4 (ea ▸ h)
      clear e ea
      have hpl : (L0 ++ r.2.2 ++ (ps_p q u n f 3 op (r.2.1 + 1)).2.2).length < 50 := by
        rw [List.length_append]
        omega
      refine wp_ifN_eq (pc' := 76) d_Re_readLevel_44 (by decide) (by omega) (fun q => absurd q (by decide)) (fun _ => ?_)
      refine wp_aload_n d_Re_readLevel_47 rfl rfl ?_
      refine wp_invV d_Re_readLevel_48 ow_Re_readLevel lk_3_62 (by decide) mi_Re_take rfl rfl (Nat.le_of_ble_eq_true rfl) rfl (wp_isC (O_65 _)) (Nat.le_trans (show h_Re_take ≤ 5 from by decide) hd) (c_take h' hn hk ?_)
      refine wp_Ki ?_
      refine wp_isto4 d_Re_readLevel_51 rfl ?_
      refine wp_aload_n d_Re_readLevel_53 rfl rfl ?_
      refine wp_iload_n d_Re_readLevel_54 rfl rfl ?_
      refine wp_iconst (x := nI 1) d_Re_readLevel_55 rfl ?_
      refine wp_iadd d_Re_readLevel_56 (nI_add _ _) ?_
      refine wp_invV d_Re_readLevel_57 ow_Re_readLevel lk_3_47 (by decide) mi_Re_readLevel rfl rfl (Nat.le_of_ble_eq_true rfl) rfl (wp_isC (O_65 _)) (Nat.le_refl _) (IH' _ _ (rS_at h' (r.2.1 + 1)) (fun S3 h3 f3 => ?_))
      refine wp_Kv ?_
      refine wp_aload_n d_Re_readLevel_60 rfl rfl ?_
      refine wp_sipush (x := nI 20000) d_Re_readLevel_61 (by decide) ?_
      refine wp_iload d_Re_readLevel_64 rfl ?_
      refine wp_iadd d_Re_readLevel_66 rfl ?_
      refine wp_invV d_Re_readLevel_67 ow_Re_readLevel lk_3_68 (by decide) mi_Re_emit rfl rfl (Nat.le_of_ble_eq_true rfl) rfl (wp_isC (O_65 _)) (Nat.le_trans (show h_Re_emit ≤ 5 from by decide) hd) (c_emit h3 hpl _ ?_)
      refine wp_Kv ?_
      refine wp_iinc3 d_Re_readLevel_70 rfl (nI_add _ 1) ?_
      refine wp_goto (pc' := 31) d_Re_readLevel_73 (by decide) ?_
      exact ih _ _ (rS_em h3 _) ((((rD_u fS).tr f3).up (Or.inr rfl)).up (Or.inl rfl))
    · refine wp_Ki ?_
      rw [if_neg (fun g => y ⟨g.1, op_in2.mpr g.2⟩)] at e
      subst e
      refine wp_ifN_eq (pc' := 76) d_Re_readLevel_44 (by decide) (by omega) (fun _ => ?_) (fun q => absurd q (by decide))
      refine wp_return d_Re_readLevel_76 rt_Re_readLevel ?_
      exact K S' h fS
theorem c_lv2 {f op d : Nat} (hd : 5 ≤ d) (hn : n ≤ 50) (hB : rB n (sp_tx q u)) (IH : rL q u n f 3 op d) : rL q u n (f + 1) 2 op (d + 1) := by
  intro k L S Q hk hL h K
  have e : ps_p q u n (f + 1) 2 op k = sp_lp (fun k => ps_p q u n f 3 op k) (sp_op 2) (ps_b q u n) 1 (ps_p q u n f 3 op k) := by
    show sp_pr _ _ _ _ (f + 1) 2 op k = _
    rw [sp_pr_s, if_pos (by decide), if_pos rfl]
  rw [e] at K
  have hlen := sp_pr_len (ps_b q u n) (sp_n0 u) (sp_n1 u) (sp_n2 u) f 3 op k
  have hlen : k + (ps_p q u n f 3 op k).2.2.length ≤ (ps_p q u n f 3 op k).2.1 := hlen
  have hle := (sp_pr_le (q := q) (u := u) (n := n) f 3 op k hk).2.1
  refine cl_in ml_Re_readLevel rfl rfl ?_
  refine wp_iload_n d_Re_readLevel_0 rfl rfl ?_
  refine wp_iconst (x := nI 5) d_Re_readLevel_1 rfl ?_
  refine wp_icN_lt (pc' := 10) d_Re_readLevel_2 (by decide) (by omega) (by omega) (fun _ => ?_) (fun q => absurd q (by decide))
  refine wp_aload_n d_Re_readLevel_10 rfl rfl ?_
  refine wp_iload_n d_Re_readLevel_11 rfl rfl ?_
  refine wp_iconst (x := nI 1) d_Re_readLevel_12 rfl ?_
  refine wp_iadd d_Re_readLevel_13 (nI_add _ _) ?_
  refine wp_invV d_Re_readLevel_14 ow_Re_readLevel lk_3_47 (by decide) mi_Re_readLevel rfl rfl (Nat.le_of_ble_eq_true rfl) rfl (wp_isC (O_65 _)) (Nat.le_refl _) (IH k L S _ hk hL h (fun S2 h2 f2 => ?_))
  refine wp_Kv ?_
  refine wp_iload_n d_Re_readLevel_17 rfl rfl ?_
  refine wp_iconst (x := nI 2) d_Re_readLevel_18 rfl ?_
  refine wp_icN_ne (pc' := 26) d_Re_readLevel_19 (by decide) (by omega) (by omega) (fun q => absurd q (by decide)) (fun _ => ?_)
  refine wp_iconst (x := nI 1) d_Re_readLevel_22 rfl ?_
  refine wp_goto (pc' := 28) d_Re_readLevel_23 (by decide) ?_
  refine wp_iston2 d_Re_readLevel_28 rfl ?_
  refine wp_iconst (x := nI 0) d_Re_readLevel_29 rfl ?_
  refine wp_iston3 d_Re_readLevel_30 rfl ?_
  exact c_lvl2 (S := S) hd hn hB IH L _ K 1 0 (ps_p q u n f 3 op k) S2 _ rfl rfl hle (by omega) h2 f2
theorem c_joins3 {S : wp_S} {Q : Option Value → wp_S → Prop} (K : Q (some (.ref 10009)) S) : cl h_Re_joinsOf y_Re_joinsOf [.int (nI 3)] S Q := by
  refine cl_in ml_Re_joinsOf rfl rfl ?_
  refine wp_iload_n d_Re_joinsOf_0 rfl rfl ?_
  refine wp_ts (pc' := 41) d_Re_joinsOf_1 (by decide) rfl (by decide) ?_
  refine wp_ldc (v := .ref 10009) d_Re_joinsOf_41 ow_Re_joinsOf (by decide +kernel) ?_
  refine wp_areturn d_Re_joinsOf_43 rt_Re_joinsOf ?_
  exact K
theorem c_lvl3 {f op d : Nat} (hd : 5 ≤ d) (hn : n ≤ 50) (hB : rB n (sp_tx q u)) (IH : rL q u n f 4 op d) {S : wp_S} {Q : Option Value → wp_S → Prop} (L0 : List Int32) (R : sp_P) (K : ∀ S', rS S' u n (sp_tx q u) R.2.1 op R.1 (L0 ++ R.2.2) → fr rD S S' → Q none S') : ∀ c j (r : sp_P) (S' : wp_S) (l4 : Option Value), j + c = 50 → sp_lp (fun k => ps_p q u n f 4 op k) (sp_op 3) (ps_b q u n) c r = R → r.2.1 ≤ n → L0.length + r.2.2.length ≤ r.2.1 → rS S' u n (sp_tx q u) r.2.1 op r.1 (L0 ++ r.2.2) → fr rD S S' → wp d y_Re_readLevel 31 [some (.ref 65), some (.int (nI 3)), some (.int (nI 50)), some (.int (nI j)), l4] [] S' Q := by
  intro c
  induction c with
  | zero =>
    intro j r S' l4 hj e h1 h2 h fS
    rw [sp_lp] at e
    subst e
    obtain rfl : j = 50 := by omega
    refine wp_iload_n d_Re_readLevel_31 rfl rfl ?_
    refine wp_iload_n d_Re_readLevel_32 rfl rfl ?_
    refine wp_icN_ge (pc' := 76) d_Re_readLevel_33 (by decide) (by omega) (by omega) (fun _ => ?_) (fun q => absurd q (by decide))
    refine wp_return d_Re_readLevel_76 rt_Re_readLevel ?_
    exact K S' h fS
  | succ c ih =>
    intro j r S' l4 hj e h1 h2 h fS
    rw [sp_lp] at e
    refine wp_iload_n d_Re_readLevel_31 rfl rfl ?_
    refine wp_iload_n d_Re_readLevel_32 rfl rfl ?_
    refine wp_icN_ge (pc' := 76) d_Re_readLevel_33 (by decide) (by omega) (by omega) (fun h33 => absurd h33 (by omega)) (fun h33 => ?_)
    refine wp_aload_n d_Re_readLevel_36 rfl rfl ?_
    refine wp_iload_n d_Re_readLevel_37 rfl rfl ?_
    refine wp_invS d_Re_readLevel_38 ow_Re_readLevel lk_3_54 (by decide) mi_Re_joinsOf rfl rfl (Nat.le_of_ble_eq_true rfl) rfl (Nat.le_trans (show h_Re_joinsOf ≤ 5 from by decide) hd) (c_joins3 ?_)
    refine wp_Kr ?_
    refine wp_invV d_Re_readLevel_41 ow_Re_readLevel lk_3_58 (by decide) mi_Re_isNextOf rfl rfl (Nat.le_of_ble_eq_true rfl) rfl (wp_isC (O_65 _)) (Nat.le_trans (show h_Re_isNextOf ≤ 5 from by decide) hd) (c_next9 h hn h1 hB (fun y => ?_) (fun y => ?_))
    · refine wp_Ki ?_
      have y2 := op_in3.mp y.2
      rw [if_pos ⟨y.1, y2⟩] at e
      have hk : r.2.1 < n := by
        by_cases g : r.2.1 < n
        · exact g
        · rw [sp_by_ge g] at y2
          exact absurd y2 (by decide)
      have hb : ps_b q u n r.2.1 = sp_tx q u r.2.1 := sp_by_lt hk
      have h' : rS S' u n (sp_tx q u) r.2.1 op true (L0 ++ r.2.2) := y.1 ▸ h
      have hl : (L0 ++ r.2.2).length ≤ r.2.1 := by rw [List.length_append]; exact h2
      have hlen : r.2.1 + 1 + (ps_p q u n f 4 op (r.2.1 + 1)).2.2.length ≤ (ps_p q u n f 4 op (r.2.1 + 1)).2.1 := sp_pr_len (ps_b q u n) (sp_n0 u) (sp_n1 u) (sp_n2 u) f 4 op (r.2.1 + 1)
      have hle := (sp_pr_le (q := q) (u := u) (n := n) f 4 op (r.2.1 + 1) (by omega)).2.1
      have IH' := fun S Q => IH (r.2.1 + 1) (L0 ++ r.2.2) S Q (by omega) (by omega)
      have ih := fun S' l4 => ih (j + 1) ((ps_p q u n f 4 op (r.2.1 + 1)).1, (ps_p q u n f 4 op (r.2.1 + 1)).2.1, r.2.2 ++ (ps_p q u n f 4 op (r.2.1 + 1)).2.2 ++ [20000 + ps_b q u n r.2.1]) S' l4 (by omega) e hle (by
        show L0.length + (r.2.2 ++ (ps_p q u n f 4 op (r.2.1 + 1)).2.2 ++ [20000 + ps_b q u n r.2.1]).length ≤ (ps_p q u n f 4 op (r.2.1 + 1)).2.1
        rw [List.length_append, List.length_append, List.length_singleton]
        omega)
      have ea : L0 ++ (r.2.2 ++ (ps_p q u n f 4 op (r.2.1 + 1)).2.2 ++ [20000 + ps_b q u n r.2.1]) = L0 ++ r.2.2 ++ (ps_p q u n f 4 op (r.2.1 + 1)).2.2 ++ [nI 20000 + sp_tx q u r.2.1] := by
        rw [hb]
        simp only [List.append_assoc]
        rfl
      have ih : ∀ S' l4, rS S' u n (sp_tx q u) (ps_p q u n f 4 op (r.2.1 + 1)).2.1 op (ps_p q u n f 4 op (r.2.1 + 1)).1 (L0 ++ r.2.2 ++ (ps_p q u n f 4 op (r.2.1 + 1)).2.2 ++ [nI 20000 + sp_tx q u r.2.1]) → fr rD S S' → wp d y_Re_readLevel 31 [some (.ref 65), some (.int (nI 3)), some (.int (nI 50)), some (.int (nI (j + 1))), l4] [] S' Q := fun S' l4 h => ih S' l4 (ea ▸ h)
      clear e ea
      have hpl : (L0 ++ r.2.2 ++ (ps_p q u n f 4 op (r.2.1 + 1)).2.2).length < 50 := by
        rw [List.length_append]
        omega
      refine wp_ifN_eq (pc' := 76) d_Re_readLevel_44 (by decide) (by omega) (fun q => absurd q (by decide)) (fun _ => ?_)
      refine wp_aload_n d_Re_readLevel_47 rfl rfl ?_
      refine wp_invV d_Re_readLevel_48 ow_Re_readLevel lk_3_62 (by decide) mi_Re_take rfl rfl (Nat.le_of_ble_eq_true rfl) rfl (wp_isC (O_65 _)) (Nat.le_trans (show h_Re_take ≤ 5 from by decide) hd) (c_take h' hn hk ?_)
      refine wp_Ki ?_
      refine wp_isto4 d_Re_readLevel_51 rfl ?_
      refine wp_aload_n d_Re_readLevel_53 rfl rfl ?_
      refine wp_iload_n d_Re_readLevel_54 rfl rfl ?_
      refine wp_iconst (x := nI 1) d_Re_readLevel_55 rfl ?_
      refine wp_iadd d_Re_readLevel_56 (nI_add _ _) ?_
      refine wp_invV d_Re_readLevel_57 ow_Re_readLevel lk_3_47 (by decide) mi_Re_readLevel rfl rfl (Nat.le_of_ble_eq_true rfl) rfl (wp_isC (O_65 _)) (Nat.le_refl _) (IH' _ _ (rS_at h' (r.2.1 + 1)) (fun S3 h3 f3 => ?_))
      refine wp_Kv ?_
      refine wp_aload_n d_Re_readLevel_60 rfl rfl ?_
      refine wp_sipush (x := nI 20000) d_Re_readLevel_61 (by decide) ?_
      refine wp_iload d_Re_readLevel_64 rfl ?_
      refine wp_iadd d_Re_readLevel_66 rfl ?_
      refine wp_invV d_Re_readLevel_67 ow_Re_readLevel lk_3_68 (by decide) mi_Re_emit rfl rfl (Nat.le_of_ble_eq_true rfl) rfl (wp_isC (O_65 _)) (Nat.le_trans (show h_Re_emit ≤ 5 from by decide) hd) (c_emit h3 hpl _ ?_)
      refine wp_Kv ?_
      refine wp_iinc3 d_Re_readLevel_70 rfl (nI_add _ 1) ?_
      refine wp_goto (pc' := 31) d_Re_readLevel_73 (by decide) ?_
      exact ih _ _ (rS_em h3 _) ((((rD_u fS).tr f3).up (Or.inr rfl)).up (Or.inl rfl))
    · refine wp_Ki ?_
      rw [if_neg (fun g => y ⟨g.1, op_in3.mpr g.2⟩)] at e
      subst e
      refine wp_ifN_eq (pc' := 76) d_Re_readLevel_44 (by decide) (by omega) (fun _ => ?_) (fun q => absurd q (by decide))
      refine wp_return d_Re_readLevel_76 rt_Re_readLevel ?_
      exact K S' h fS
theorem c_lv3 {f op d : Nat} (hd : 5 ≤ d) (hn : n ≤ 50) (hB : rB n (sp_tx q u)) (IH : rL q u n f 4 op d) : rL q u n (f + 1) 3 op (d + 1) := by
  intro k L S Q hk hL h K
  have e : ps_p q u n (f + 1) 3 op k = sp_lp (fun k => ps_p q u n f 4 op k) (sp_op 3) (ps_b q u n) 50 (ps_p q u n f 4 op k) := by
    show sp_pr _ _ _ _ (f + 1) 3 op k = _
    rw [sp_pr_s, if_pos (by decide), if_neg (by decide)]
  rw [e] at K
  have hlen := sp_pr_len (ps_b q u n) (sp_n0 u) (sp_n1 u) (sp_n2 u) f 4 op k
  have hlen : k + (ps_p q u n f 4 op k).2.2.length ≤ (ps_p q u n f 4 op k).2.1 := hlen
  have hle := (sp_pr_le (q := q) (u := u) (n := n) f 4 op k hk).2.1
  refine cl_in ml_Re_readLevel rfl rfl ?_
  refine wp_iload_n d_Re_readLevel_0 rfl rfl ?_
  refine wp_iconst (x := nI 5) d_Re_readLevel_1 rfl ?_
  refine wp_icN_lt (pc' := 10) d_Re_readLevel_2 (by decide) (by omega) (by omega) (fun _ => ?_) (fun q => absurd q (by decide))
  refine wp_aload_n d_Re_readLevel_10 rfl rfl ?_
  refine wp_iload_n d_Re_readLevel_11 rfl rfl ?_
  refine wp_iconst (x := nI 1) d_Re_readLevel_12 rfl ?_
  refine wp_iadd d_Re_readLevel_13 (nI_add _ _) ?_
  refine wp_invV d_Re_readLevel_14 ow_Re_readLevel lk_3_47 (by decide) mi_Re_readLevel rfl rfl (Nat.le_of_ble_eq_true rfl) rfl (wp_isC (O_65 _)) (Nat.le_refl _) (IH k L S _ hk hL h (fun S2 h2 f2 => ?_))
  refine wp_Kv ?_
  refine wp_iload_n d_Re_readLevel_17 rfl rfl ?_
  refine wp_iconst (x := nI 2) d_Re_readLevel_18 rfl ?_
  refine wp_icN_ne (pc' := 26) d_Re_readLevel_19 (by decide) (by omega) (by omega) (fun _ => ?_) (fun q => absurd q (by decide))
  refine wp_bipush (x := nI 50) d_Re_readLevel_26 (by decide) ?_
  refine wp_iston2 d_Re_readLevel_28 rfl ?_
  refine wp_iconst (x := nI 0) d_Re_readLevel_29 rfl ?_
  refine wp_iston3 d_Re_readLevel_30 rfl ?_
  exact c_lvl3 (S := S) hd hn hB IH L _ K 50 0 (ps_p q u n f 4 op k) S2 _ rfl rfl hle (by omega) h2 f2
theorem c_joins4 {S : wp_S} {Q : Option Value → wp_S → Prop} (K : Q (some (.ref 10010)) S) : cl h_Re_joinsOf y_Re_joinsOf [.int (nI 4)] S Q := by
  refine cl_in ml_Re_joinsOf rfl rfl ?_
  refine wp_iload_n d_Re_joinsOf_0 rfl rfl ?_
  refine wp_td (pc' := 44) d_Re_joinsOf_1 (by decide) (by decide) ?_
  refine wp_ldc (v := .ref 10010) d_Re_joinsOf_44 ow_Re_joinsOf (by decide +kernel) ?_
  refine wp_areturn d_Re_joinsOf_46 rt_Re_joinsOf ?_
  exact K
theorem c_lvl4 {f op d : Nat} (hd : 5 ≤ d) (hn : n ≤ 50) (hB : rB n (sp_tx q u)) (IH : rL q u n f 5 op d) {S : wp_S} {Q : Option Value → wp_S → Prop} (L0 : List Int32) (R : sp_P) (K : ∀ S', rS S' u n (sp_tx q u) R.2.1 op R.1 (L0 ++ R.2.2) → fr rD S S' → Q none S') : ∀ c j (r : sp_P) (S' : wp_S) (l4 : Option Value), j + c = 50 → sp_lp (fun k => ps_p q u n f 5 op k) (sp_op 4) (ps_b q u n) c r = R → r.2.1 ≤ n → L0.length + r.2.2.length ≤ r.2.1 → rS S' u n (sp_tx q u) r.2.1 op r.1 (L0 ++ r.2.2) → fr rD S S' → wp d y_Re_readLevel 31 [some (.ref 65), some (.int (nI 4)), some (.int (nI 50)), some (.int (nI j)), l4] [] S' Q := by
  intro c
  induction c with
  | zero =>
    intro j r S' l4 hj e h1 h2 h fS
    rw [sp_lp] at e
    subst e
    obtain rfl : j = 50 := by omega
    refine wp_iload_n d_Re_readLevel_31 rfl rfl ?_
    refine wp_iload_n d_Re_readLevel_32 rfl rfl ?_
    refine wp_icN_ge (pc' := 76) d_Re_readLevel_33 (by decide) (by omega) (by omega) (fun _ => ?_) (fun q => absurd q (by decide))
    refine wp_return d_Re_readLevel_76 rt_Re_readLevel ?_
    exact K S' h fS
  | succ c ih =>
    intro j r S' l4 hj e h1 h2 h fS
    rw [sp_lp] at e
    refine wp_iload_n d_Re_readLevel_31 rfl rfl ?_
    refine wp_iload_n d_Re_readLevel_32 rfl rfl ?_
    refine wp_icN_ge (pc' := 76) d_Re_readLevel_33 (by decide) (by omega) (by omega) (fun h33 => absurd h33 (by omega)) (fun h33 => ?_)
    refine wp_aload_n d_Re_readLevel_36 rfl rfl ?_
    refine wp_iload_n d_Re_readLevel_37 rfl rfl ?_
    refine wp_invS d_Re_readLevel_38 ow_Re_readLevel lk_3_54 (by decide) mi_Re_joinsOf rfl rfl (Nat.le_of_ble_eq_true rfl) rfl (Nat.le_trans (show h_Re_joinsOf ≤ 5 from by decide) hd) (c_joins4 ?_)
    refine wp_Kr ?_
    refine wp_invV d_Re_readLevel_41 ow_Re_readLevel lk_3_58 (by decide) mi_Re_isNextOf rfl rfl (Nat.le_of_ble_eq_true rfl) rfl (wp_isC (O_65 _)) (Nat.le_trans (show h_Re_isNextOf ≤ 5 from by decide) hd) (c_next10 h hn h1 hB (fun y => ?_) (fun y => ?_))
    · refine wp_Ki ?_
      have y2 := op_in4.mp y.2
      rw [if_pos ⟨y.1, y2⟩] at e
      have hk : r.2.1 < n := by
        by_cases g : r.2.1 < n
        · exact g
        · rw [sp_by_ge g] at y2
          exact absurd y2 (by decide)
      have hb : ps_b q u n r.2.1 = sp_tx q u r.2.1 := sp_by_lt hk
      have h' : rS S' u n (sp_tx q u) r.2.1 op true (L0 ++ r.2.2) := y.1 ▸ h
      have hl : (L0 ++ r.2.2).length ≤ r.2.1 := by rw [List.length_append]; exact h2
      have hlen : r.2.1 + 1 + (ps_p q u n f 5 op (r.2.1 + 1)).2.2.length ≤ (ps_p q u n f 5 op (r.2.1 + 1)).2.1 := sp_pr_len (ps_b q u n) (sp_n0 u) (sp_n1 u) (sp_n2 u) f 5 op (r.2.1 + 1)
      have hle := (sp_pr_le (q := q) (u := u) (n := n) f 5 op (r.2.1 + 1) (by omega)).2.1
      have IH' := fun S Q => IH (r.2.1 + 1) (L0 ++ r.2.2) S Q (by omega) (by omega)
      have ih := fun S' l4 => ih (j + 1) ((ps_p q u n f 5 op (r.2.1 + 1)).1, (ps_p q u n f 5 op (r.2.1 + 1)).2.1, r.2.2 ++ (ps_p q u n f 5 op (r.2.1 + 1)).2.2 ++ [20000 + ps_b q u n r.2.1]) S' l4 (by omega) e hle (by
        show L0.length + (r.2.2 ++ (ps_p q u n f 5 op (r.2.1 + 1)).2.2 ++ [20000 + ps_b q u n r.2.1]).length ≤ (ps_p q u n f 5 op (r.2.1 + 1)).2.1
        rw [List.length_append, List.length_append, List.length_singleton]
        omega)
      have ea : L0 ++ (r.2.2 ++ (ps_p q u n f 5 op (r.2.1 + 1)).2.2 ++ [20000 + ps_b q u n r.2.1]) = L0 ++ r.2.2 ++ (ps_p q u n f 5 op (r.2.1 + 1)).2.2 ++ [nI 20000 + sp_tx q u r.2.1] := by
        rw [hb]
        simp only [List.append_assoc]
        rfl
      have ih : ∀ S' l4, rS S' u n (sp_tx q u) (ps_p q u n f 5 op (r.2.1 + 1)).2.1 op (ps_p q u n f 5 op (r.2.1 + 1)).1 (L0 ++ r.2.2 ++ (ps_p q u n f 5 op (r.2.1 + 1)).2.2 ++ [nI 20000 + sp_tx q u r.2.1]) → fr rD S S' → wp d y_Re_readLevel 31 [some (.ref 65), some (.int (nI 4)), some (.int (nI 50)), some (.int (nI (j + 1))), l4] [] S' Q := fun S' l4 h => ih S' l4 (ea ▸ h)
      clear e ea
      have hpl : (L0 ++ r.2.2 ++ (ps_p q u n f 5 op (r.2.1 + 1)).2.2).length < 50 := by
        rw [List.length_append]
        omega
      refine wp_ifN_eq (pc' := 76) d_Re_readLevel_44 (by decide) (by omega) (fun q => absurd q (by decide)) (fun _ => ?_)
      refine wp_aload_n d_Re_readLevel_47 rfl rfl ?_
      refine wp_invV d_Re_readLevel_48 ow_Re_readLevel lk_3_62 (by decide) mi_Re_take rfl rfl (Nat.le_of_ble_eq_true rfl) rfl (wp_isC (O_65 _)) (Nat.le_trans (show h_Re_take ≤ 5 from by decide) hd) (c_take h' hn hk ?_)
      refine wp_Ki ?_
      refine wp_isto4 d_Re_readLevel_51 rfl ?_
      refine wp_aload_n d_Re_readLevel_53 rfl rfl ?_
      refine wp_iload_n d_Re_readLevel_54 rfl rfl ?_
      refine wp_iconst (x := nI 1) d_Re_readLevel_55 rfl ?_
      refine wp_iadd d_Re_readLevel_56 (nI_add _ _) ?_
      refine wp_invV d_Re_readLevel_57 ow_Re_readLevel lk_3_47 (by decide) mi_Re_readLevel rfl rfl (Nat.le_of_ble_eq_true rfl) rfl (wp_isC (O_65 _)) (Nat.le_refl _) (IH' _ _ (rS_at h' (r.2.1 + 1)) (fun S3 h3 f3 => ?_))
      refine wp_Kv ?_
      refine wp_aload_n d_Re_readLevel_60 rfl rfl ?_
      refine wp_sipush (x := nI 20000) d_Re_readLevel_61 (by decide) ?_
      refine wp_iload d_Re_readLevel_64 rfl ?_
      refine wp_iadd d_Re_readLevel_66 rfl ?_
      refine wp_invV d_Re_readLevel_67 ow_Re_readLevel lk_3_68 (by decide) mi_Re_emit rfl rfl (Nat.le_of_ble_eq_true rfl) rfl (wp_isC (O_65 _)) (Nat.le_trans (show h_Re_emit ≤ 5 from by decide) hd) (c_emit h3 hpl _ ?_)
      refine wp_Kv ?_
      refine wp_iinc3 d_Re_readLevel_70 rfl (nI_add _ 1) ?_
      refine wp_goto (pc' := 31) d_Re_readLevel_73 (by decide) ?_
      exact ih _ _ (rS_em h3 _) ((((rD_u fS).tr f3).up (Or.inr rfl)).up (Or.inl rfl))
    · refine wp_Ki ?_
      rw [if_neg (fun g => y ⟨g.1, op_in4.mpr g.2⟩)] at e
      subst e
      refine wp_ifN_eq (pc' := 76) d_Re_readLevel_44 (by decide) (by omega) (fun _ => ?_) (fun q => absurd q (by decide))
      refine wp_return d_Re_readLevel_76 rt_Re_readLevel ?_
      exact K S' h fS
theorem c_lv4 {f op d : Nat} (hd : 5 ≤ d) (hn : n ≤ 50) (hB : rB n (sp_tx q u)) (IH : rL q u n f 5 op d) : rL q u n (f + 1) 4 op (d + 1) := by
  intro k L S Q hk hL h K
  have e : ps_p q u n (f + 1) 4 op k = sp_lp (fun k => ps_p q u n f 5 op k) (sp_op 4) (ps_b q u n) 50 (ps_p q u n f 5 op k) := by
    show sp_pr _ _ _ _ (f + 1) 4 op k = _
    rw [sp_pr_s, if_pos (by decide), if_neg (by decide)]
  rw [e] at K
  have hlen := sp_pr_len (ps_b q u n) (sp_n0 u) (sp_n1 u) (sp_n2 u) f 5 op k
  have hlen : k + (ps_p q u n f 5 op k).2.2.length ≤ (ps_p q u n f 5 op k).2.1 := hlen
  have hle := (sp_pr_le (q := q) (u := u) (n := n) f 5 op k hk).2.1
  refine cl_in ml_Re_readLevel rfl rfl ?_
  refine wp_iload_n d_Re_readLevel_0 rfl rfl ?_
  refine wp_iconst (x := nI 5) d_Re_readLevel_1 rfl ?_
  refine wp_icN_lt (pc' := 10) d_Re_readLevel_2 (by decide) (by omega) (by omega) (fun _ => ?_) (fun q => absurd q (by decide))
  refine wp_aload_n d_Re_readLevel_10 rfl rfl ?_
  refine wp_iload_n d_Re_readLevel_11 rfl rfl ?_
  refine wp_iconst (x := nI 1) d_Re_readLevel_12 rfl ?_
  refine wp_iadd d_Re_readLevel_13 (nI_add _ _) ?_
  refine wp_invV d_Re_readLevel_14 ow_Re_readLevel lk_3_47 (by decide) mi_Re_readLevel rfl rfl (Nat.le_of_ble_eq_true rfl) rfl (wp_isC (O_65 _)) (Nat.le_refl _) (IH k L S _ hk hL h (fun S2 h2 f2 => ?_))
  refine wp_Kv ?_
  refine wp_iload_n d_Re_readLevel_17 rfl rfl ?_
  refine wp_iconst (x := nI 2) d_Re_readLevel_18 rfl ?_
  refine wp_icN_ne (pc' := 26) d_Re_readLevel_19 (by decide) (by omega) (by omega) (fun _ => ?_) (fun q => absurd q (by decide))
  refine wp_bipush (x := nI 50) d_Re_readLevel_26 (by decide) ?_
  refine wp_iston2 d_Re_readLevel_28 rfl ?_
  refine wp_iconst (x := nI 0) d_Re_readLevel_29 rfl ?_
  refine wp_iston3 d_Re_readLevel_30 rfl ?_
  exact c_lvl4 (S := S) hd hn hB IH L _ K 50 0 (ps_p q u n f 5 op k) S2 _ rfl rfl hle (by omega) h2 f2
theorem c_lv5 {f op d : Nat} (IH : rQ q u n f op d) : rL q u n f 5 op (d + 1) := by
  intro k L S Q hk hL h K
  refine cl_in ml_Re_readLevel rfl rfl ?_
  refine wp_iload_n d_Re_readLevel_0 rfl rfl ?_
  refine wp_iconst (x := nI 5) d_Re_readLevel_1 rfl ?_
  refine wp_icN_lt (pc' := 10) d_Re_readLevel_2 (by decide) (by omega) (by omega) (fun q => absurd q (by decide)) (fun _ => ?_)
  refine wp_aload_n d_Re_readLevel_5 rfl rfl ?_
  refine wp_invV d_Re_readLevel_6 ow_Re_readLevel lk_3_51 (by decide) mi_Re_readQ rfl rfl (Nat.le_of_ble_eq_true rfl) rfl (wp_isC (O_65 _)) (Nat.le_refl _) (IH k L S _ hk hL h (fun S2 h2 f2 => ?_))
  refine wp_Kv ?_
  refine wp_return d_Re_readLevel_9 rt_Re_readLevel ?_
  exact K S2 h2 f2
theorem c_opened {f op d : Nat} (hd : 5 ≤ d) (hn : n ≤ 50) (hB : rB n (sp_tx q u)) (I5 : rQ q u n f op d) (I0 : rL q u n f 0 op d) : rO q u n f op (d + 1) := by
  intro k L S Q hk hL hb h K
  have hbk : ps_b q u n k = sp_tx q u k := sp_by_lt hk
  unfold rR at K
  by_cases h33 : ps_b q u n k = 33
  · rw [if_pos h33] at K
    rw [hbk] at h33
    have hlen := sp_pr_len (ps_b q u n) (sp_n0 u) (sp_n1 u) (sp_n2 u) f 5 op (k + 1)
    have hle := (sp_pr_le (q := q) (u := u) (n := n) f 5 op (k + 1) hk).2.1
    have hpl : (L ++ (ps_p q u n f 5 op (k + 1)).2.2).length < 50 := by
      rw [List.length_append]
      have hlen : k + 1 + (ps_p q u n f 5 op (k + 1)).2.2.length ≤ (ps_p q u n f 5 op (k + 1)).2.1 := hlen
      omega
    refine cl_in ml_Re_readOpened rfl rfl ?_
    refine wp_aload_n d_Re_readOpened_0 rfl rfl ?_
    refine wp_invV d_Re_readOpened_1 ow_Re_readOpened lk_3_62 (by decide) mi_Re_take rfl rfl (Nat.le_of_ble_eq_true rfl) rfl (wp_isC (O_65 _)) (Nat.le_trans (show h_Re_take ≤ 5 from by decide) hd) (c_take h hn hk ?_)
    refine wp_Ki ?_
    refine wp_bipush (x := nI 33) d_Re_readOpened_4 (by decide) ?_
    refine wp_ic_ne (pc' := 21) d_Re_readOpened_6 (by decide) (fun h6 => absurd h33 h6) (fun h6 => ?_)
    refine wp_aload_n d_Re_readOpened_9 rfl rfl ?_
    refine wp_invV d_Re_readOpened_10 ow_Re_readOpened lk_3_51 (by decide) mi_Re_readQ rfl rfl (Nat.le_of_ble_eq_true rfl) rfl (wp_isC (O_65 _)) (Nat.le_refl _) (I5 (k + 1) L _ _ hk (by omega) (rS_at h (k + 1)) (fun S3 h3 f3 => ?_))
    refine wp_Kv ?_
    refine wp_aload_n d_Re_readOpened_13 rfl rfl ?_
    refine wp_sipush (x := nI 20033) d_Re_readOpened_14 (by decide) ?_
    refine wp_invV d_Re_readOpened_17 ow_Re_readOpened lk_3_68 (by decide) mi_Re_emit rfl rfl (Nat.le_of_ble_eq_true rfl) rfl (wp_isC (O_65 _)) (Nat.le_trans (show h_Re_emit ≤ 5 from by decide) hd) (c_emit h3 hpl _ ?_)
    refine wp_Kv ?_
    refine wp_return d_Re_readOpened_20 rt_Re_readOpened ?_
    refine K _ ?_ ((((rD_u fr.rf).tr f3).up (Or.inr rfl)).up (Or.inl rfl))
    show rS _ u n (sp_tx q u) (ps_p q u n f 5 op (k + 1)).2.1 op (ps_p q u n f 5 op (k + 1)).1 (L ++ ((ps_p q u n f 5 op (k + 1)).2.2 ++ [nI 20033]))
    rw [← List.append_assoc]
    exact rS_em h3 _
  · rw [if_neg h33] at K
    rw [hbk] at h33
    have hle := (sp_pr_le (q := q) (u := u) (n := n) f 0 op (k + 1) hk).2.1
    refine cl_in ml_Re_readOpened rfl rfl ?_
    refine wp_aload_n d_Re_readOpened_0 rfl rfl ?_
    refine wp_invV d_Re_readOpened_1 ow_Re_readOpened lk_3_62 (by decide) mi_Re_take rfl rfl (Nat.le_of_ble_eq_true rfl) rfl (wp_isC (O_65 _)) (Nat.le_trans (show h_Re_take ≤ 5 from by decide) hd) (c_take h hn hk ?_)
    refine wp_Ki ?_
    refine wp_bipush (x := nI 33) d_Re_readOpened_4 (by decide) ?_
    refine wp_ic_ne (pc' := 21) d_Re_readOpened_6 (by decide) (fun h6 => ?_) (fun h6 => absurd h6 h33)
    refine wp_aload_n d_Re_readOpened_21 rfl rfl ?_
    refine wp_iconst (x := nI 0) d_Re_readOpened_22 rfl ?_
    refine wp_invV d_Re_readOpened_23 ow_Re_readOpened lk_3_47 (by decide) mi_Re_readLevel rfl rfl (Nat.le_of_ble_eq_true rfl) rfl (wp_isC (O_65 _)) (Nat.le_refl _) (I0 (k + 1) L _ _ hk (by omega) (rS_at h (k + 1)) (fun S3 h3 f3 => ?_))
    refine wp_Kv ?_
    refine wp_aload_n d_Re_readOpened_26 rfl rfl ?_
    refine wp_ldc (v := .ref 10005) d_Re_readOpened_27 ow_Re_readOpened (by decide +kernel) ?_
    refine wp_invV d_Re_readOpened_29 ow_Re_readOpened lk_3_58 (by decide) mi_Re_isNextOf rfl rfl (Nat.le_of_ble_eq_true rfl) rfl (wp_isC (O_65 _)) (Nat.le_trans (show h_Re_isNextOf ≤ 5 from by decide) hd) (c_next5 h3 hn hle hB (fun y => ?_) (fun y => ?_))
    · refine wp_Ki ?_
      have y2 := List.mem_singleton.mp y.2
      rw [if_pos ⟨y.1, y2⟩] at K
      have hk2 : (ps_p q u n f 0 op (k + 1)).2.1 < n := by_ge' y2 (by decide)
      have h3' : rS S3 u n (sp_tx q u) (ps_p q u n f 0 op (k + 1)).2.1 op true (L ++ (ps_p q u n f 0 op (k + 1)).2.2) := y.1 ▸ h3
      refine wp_ifN_eq (pc' := 43) d_Re_readOpened_32 (by decide) (by omega) (fun q => absurd q (by decide)) (fun _ => ?_)
      refine wp_aload_n d_Re_readOpened_35 rfl rfl ?_
      refine wp_invV d_Re_readOpened_36 ow_Re_readOpened lk_3_62 (by decide) mi_Re_take rfl rfl (Nat.le_of_ble_eq_true rfl) rfl (wp_isC (O_65 _)) (Nat.le_trans (show h_Re_take ≤ 5 from by decide) hd) (c_take h3' hn hk2 ?_)
      refine wp_Ki ?_
      refine wp_pop d_Re_readOpened_39 rfl ?_
      refine wp_goto (pc' := 48) d_Re_readOpened_40 (by decide) ?_
      refine wp_return d_Re_readOpened_48 rt_Re_readOpened ?_
      exact K _ (rS_at h3' _) (rD_u ((rD_u fr.rf).tr f3))
    · refine wp_Ki ?_
      rw [if_neg (fun g => y ⟨g.1, List.mem_singleton.mpr g.2⟩)] at K
      refine wp_ifN_eq (pc' := 43) d_Re_readOpened_32 (by decide) (by omega) (fun _ => ?_) (fun q => absurd q (by decide))
      refine wp_aload_n d_Re_readOpened_43 rfl rfl ?_
      refine wp_iconst (x := nI 1) d_Re_readOpened_44 rfl ?_
      refine wp_put (ty := .boolean) d_Re_readOpened_45 ow_Re_readOpened fl_3_34 (by decide +kernel) (by decide +kernel) (O_65 _) rfl ⟨rfl, rfl⟩ ?_
      refine wp_return d_Re_readOpened_48 rt_Re_readOpened ?_
      exact K _ (rS_bad h3) (rD_u ((rD_u fr.rf).tr f3))
theorem c_rq0 {f op d : Nat} (hd : 6 ≤ d) (hn : n ≤ 50) (hop : op ≤ 5) (hB : rB n (sp_tx q 0)) (IO : op < 5 → rO q 0 n f (op + 1) d) : rQ q 0 n (f + 1) op (d + 1) := by
  intro k L S Q hk hL h K
  have e : ps_p q 0 n (f + 1) 5 op k = sp_pr (ps_b q 0 n) (sp_n0 0) (sp_n1 0) (sp_n2 0) (f + 1) 5 op k := rfl
  rw [sp_pr_s, if_neg (by decide)] at e
  have hnm : S.1 = 10000 := h.1.1
  refine cl_in ml_Re_readQ rfl rfl ?_
  refine wp_aload_n d_Re_readQ_0 rfl rfl ?_
  refine wp_ldc (v := .ref 10003) d_Re_readQ_1 ow_Re_readQ (by decide +kernel) ?_
  refine wp_invV d_Re_readQ_3 ow_Re_readQ lk_3_58 (by decide) mi_Re_isNextOf rfl rfl (Nat.le_of_ble_eq_true rfl) rfl (wp_isC (O_65 _)) (Nat.le_trans (show h_Re_isNextOf ≤ 6 from by decide) hd) (c_next3 h hn hk hB (fun y => ?_) (fun y => ?_))
  · refine wp_Ki ?_
    have y2 := dg_in.mp y.2
    have hkn := dg_lt y2
    rw [if_pos y2] at e
    rw [e] at K
    refine wp_ifN_eq (pc' := 16) d_Re_readQ_6 (by decide) (by omega) (fun q => absurd q (by decide)) (fun _ => ?_)
    refine wp_aload_n d_Re_readQ_9 rfl rfl ?_
    refine wp_invV d_Re_readQ_10 ow_Re_readQ lk_3_83 (by decide) mi_Re_readNumber rfl rfl (Nat.le_of_ble_eq_true rfl) rfl (wp_isC (O_65 _)) (Nat.le_trans (show h_Re_readNumber ≤ 6 from by decide) hd) (c_readNumber h hn hB hk (by omega) (fun S2 h2 f2 => ?_))
    refine wp_Kv ?_
    refine wp_goto (pc' := 99) d_Re_readQ_13 (by decide) ?_
    refine wp_return d_Re_readQ_99 rt_Re_readQ ?_
    exact K S2 h2 f2
  · refine wp_Ki ?_
    have y1 : ¬ sp_dg (ps_b q 0 n k) = true := fun z => y ⟨rfl, dg_in.mpr z⟩
    rw [if_neg y1] at e
    refine wp_ifN_eq (pc' := 16) d_Re_readQ_6 (by decide) (by omega) (fun _ => ?_) (fun q => absurd q (by decide))
    refine wp_aload_n d_Re_readQ_16 rfl rfl ?_
    refine wp_aload_n d_Re_readQ_17 rfl rfl ?_
    refine wp_getR d_Re_readQ_18 ow_Re_readQ fl_3_21 (O_65 _) rfl ?_
    rw [hnm]
    refine wp_invV d_Re_readQ_21 ow_Re_readQ lk_3_58 (by decide) mi_Re_isNextOf rfl rfl (Nat.le_of_ble_eq_true rfl) rfl (wp_isC (O_65 _)) (Nat.le_trans (show h_Re_isNextOf ≤ 6 from by decide) hd) (c_next0 h hn hk hB (fun z => ?_) (fun z => ?_))
    · refine wp_Ki ?_
      have z2 := z.2
      simp only [List.mem_cons, List.not_mem_nil, or_false] at z2
      have hkn : k < n := by
        rcases z2 with z2 | z2 | z2
        · exact by_ge' z2 (by decide)
        · exact by_ge' z2 (by decide)
        · exact by_ge' z2 (by decide)
      obtain ⟨b, hb, eb⟩ := hB k hkn
      have hbk : ps_b q 0 n k = nI b := (sp_by_lt hkn).trans eb
      have ex : ∃ i, i < 3 ∧ sp_xo (nI b) [110, 116, 102] 3 0 = nI i ∧ ps_p q 0 n (f + 1) 5 op k = (true, k + 1, [nI 10000 + nI i]) := by
        rw [show sp_by (sp_tx q 0) n k = nI b from hbk] at z2
        by_cases g0 : nI b = 110
        · refine ⟨0, by decide, ?_, ?_⟩
          · rw [sp_xo_s, if_pos (show ([110, 116, 102] : List Int32).getD 0 0 = nI b from g0.symm)]
          · rw [e, if_pos (show ps_b q 0 n k = sp_n0 0 from hbk.trans g0)]
            rfl
        · by_cases g1 : nI b = 116
          · refine ⟨1, by decide, ?_, ?_⟩
            · rw [sp_xo_s, if_neg (show ¬ ([110, 116, 102] : List Int32).getD 0 0 = nI b from fun w => g0 w.symm), sp_xo_s, if_pos (show ([110, 116, 102] : List Int32).getD 1 0 = nI b from g1.symm)]
            · rw [e, if_neg (show ¬ ps_b q 0 n k = sp_n0 0 from fun w => g0 (hbk.symm.trans w)), if_pos (show ps_b q 0 n k = sp_n1 0 from hbk.trans g1)]
              rfl
          · have g2 : nI b = 102 := by
              rcases z2 with w | w | w
              · exact absurd w g0
              · exact absurd w g1
              · exact w
            refine ⟨2, by decide, ?_, ?_⟩
            · rw [sp_xo_s, if_neg (show ¬ ([110, 116, 102] : List Int32).getD 0 0 = nI b from fun w => g0 w.symm), sp_xo_s, if_neg (show ¬ ([110, 116, 102] : List Int32).getD 1 0 = nI b from fun w => g1 w.symm), sp_xo_s, if_pos (show ([110, 116, 102] : List Int32).getD 2 0 = nI b from g2.symm)]
            · rw [e, if_neg (show ¬ ps_b q 0 n k = sp_n0 0 from fun w => g0 (hbk.symm.trans w)), if_neg (show ¬ ps_b q 0 n k = sp_n1 0 from fun w => g1 (hbk.symm.trans w)), if_pos (show ps_b q 0 n k = sp_n2 0 from hbk.trans g2)]
              rfl
      obtain ⟨i, hi, ei, ep⟩ := ex
      rw [ep] at K
      have h2 := rS_at h (k + 1)
      refine wp_ifN_eq (pc' := 50) d_Re_readQ_24 (by decide) (by omega) (fun q => absurd q (by decide)) (fun _ => ?_)
      refine wp_aload_n d_Re_readQ_27 rfl rfl ?_
      refine wp_sipush (x := nI 10000) d_Re_readQ_28 (by decide) ?_
      refine wp_aload_n d_Re_readQ_31 rfl rfl ?_
      refine wp_getR d_Re_readQ_32 ow_Re_readQ fl_3_21 (O_65 _) rfl ?_
      rw [hnm]
      refine wp_aload_n d_Re_readQ_35 rfl rfl ?_
      refine wp_invV d_Re_readQ_36 ow_Re_readQ lk_3_62 (by decide) mi_Re_take rfl rfl (Nat.le_of_ble_eq_true rfl) rfl (wp_isC (O_65 _)) (Nat.le_trans (show h_Re_take ≤ 6 from by decide) hd) (c_take h hn hkn (lf_i eb ?_))
      refine wp_Ki ?_
      refine wp_i2c d_Re_readQ_39 (i_c2 (by omega)) ?_
      refine wp_invV d_Re_readQ_40 ow_Re_readQ lk_3_86 (by decide) mi_Js_indexOf rfl rfl (Nat.le_of_ble_eq_true rfl) rfl rfl (Nat.le_trans (show h_Js_indexOf ≤ 6 from by decide) hd) (c_ix0 hb (lf_i ei ?_))
      refine wp_Ki ?_
      refine wp_iadd d_Re_readQ_43 ((rfl : _ = nI 10000 + nI i)) ?_
      refine wp_invV d_Re_readQ_44 ow_Re_readQ lk_3_68 (by decide) mi_Re_emit rfl rfl (Nat.le_of_ble_eq_true rfl) rfl (wp_isC (O_65 _)) (Nat.le_trans (show h_Re_emit ≤ 6 from by decide) hd) (c_emit h2 (by omega) _ ?_)
      refine wp_Kv ?_
      refine wp_goto (pc' := 99) d_Re_readQ_47 (by decide) ?_
      refine wp_return d_Re_readQ_99 rt_Re_readQ ?_
      exact K _ (rS_em h2 _) (((rD_u fr.rf).up (Or.inr rfl)).up (Or.inl rfl))
    · refine wp_Ki ?_
      have w0 : ¬ ps_b q 0 n k = sp_n0 0 := fun w => z ⟨rfl, by simp only [List.mem_cons]; exact Or.inl w⟩
      have w1 : ¬ ps_b q 0 n k = sp_n1 0 := fun w => z ⟨rfl, by simp only [List.mem_cons]; exact Or.inr (Or.inl w)⟩
      have w2 : ¬ ps_b q 0 n k = sp_n2 0 := fun w => z ⟨rfl, by simp only [List.mem_cons]; exact Or.inr (Or.inr (Or.inl w))⟩
      rw [if_neg w0, if_neg w1, if_neg w2] at e
      have K94 : ps_p q 0 n (f + 1) 5 op k = (false, k, []) → wp d y_Re_readQ 94 [some (.ref 65)] [] S Q := by
        intro ep
        rw [ep] at K
        refine wp_aload_n d_Re_readQ_94 rfl rfl ?_
        refine wp_iconst (x := nI 1) d_Re_readQ_95 rfl ?_
        refine wp_put (ty := .boolean) d_Re_readQ_96 ow_Re_readQ fl_3_34 (by decide +kernel) (by decide +kernel) (O_65 _) rfl ⟨rfl, rfl⟩ ?_
        refine wp_return d_Re_readQ_99 rt_Re_readQ ?_
        exact K _ (by show rS _ 0 n (sp_tx q 0) k op false (L ++ []); rw [List.append_nil]; exact rS_bad h) (rD_u fr.rf)
      refine wp_ifN_eq (pc' := 50) d_Re_readQ_24 (by decide) (by omega) (fun _ => ?_) (fun q => absurd q (by decide))
      refine wp_aload_n d_Re_readQ_50 rfl rfl ?_
      refine wp_ldc (v := .ref 10004) d_Re_readQ_51 ow_Re_readQ (by decide +kernel) ?_
      refine wp_invV d_Re_readQ_53 ow_Re_readQ lk_3_58 (by decide) mi_Re_isNextOf rfl rfl (Nat.le_of_ble_eq_true rfl) rfl (wp_isC (O_65 _)) (Nat.le_trans (show h_Re_isNextOf ≤ 6 from by decide) hd) (c_next4 h hn hk hB (fun y => ?_) (fun y => ?_))
      · refine wp_Ki ?_
        have y2 := y.2
        simp only [List.mem_cons, List.not_mem_nil, or_false] at y2
        have hkn : k < n := by
          rcases y2 with y2 | y2
          · exact by_ge' y2 (by decide)
          · exact by_ge' y2 (by decide)
        have go : op < 5 → ps_p q 0 n (f + 1) 5 op k = rR q 0 n f (op + 1) k := by
          intro h5
          unfold rR
          rcases y2 with y2 | y2
          · rw [e, if_pos ⟨y2, h5⟩, if_pos y2]
          · have ne : ¬ ps_b q 0 n k = 33 := fun w => absurd (y2.symm.trans w) (by decide)
            rw [e, if_neg (fun w => ne w.1), if_pos ⟨y2, h5⟩, if_neg ne]
        refine wp_ifN_eq (pc' := 94) d_Re_readQ_56 (by decide) (by omega) (fun q => absurd q (by decide)) (fun _ => ?_)
        refine wp_aload_n d_Re_readQ_59 rfl rfl ?_
        refine wp_getI d_Re_readQ_60 ow_Re_readQ fl_3_31 (O_65 _) rfl (h.2.2.1) ?_
        refine wp_iconst (x := nI 5) d_Re_readQ_63 rfl ?_
        refine wp_icN_ge (pc' := 94) d_Re_readQ_64 (by decide) (by omega) (by omega) (fun h64 => ?_) (fun h64 => ?_)
        · exact K94 (by rw [e, if_neg (fun w => absurd w.2 (by omega)), if_neg (fun w => absurd w.2 (by omega))])
        · refine wp_aload_n d_Re_readQ_67 rfl rfl ?_
          refine wp_dup d_Re_readQ_68 rfl ?_
          refine wp_getI d_Re_readQ_69 ow_Re_readQ fl_3_31 (O_65 _) rfl (h.2.2.1) ?_
          refine wp_iconst (x := nI 1) d_Re_readQ_72 rfl ?_
          refine wp_iadd d_Re_readQ_73 (nI_add _ _) ?_
          refine wp_put (ty := .int) d_Re_readQ_74 ow_Re_readQ fl_3_31 (by decide +kernel) (by decide +kernel) (O_65 _) rfl ⟨rfl, rfl⟩ ?_
          rw [go (by omega)] at K
          refine wp_aload_n d_Re_readQ_77 rfl rfl ?_
          refine wp_invV d_Re_readQ_78 ow_Re_readQ lk_3_94 (by decide) mi_Re_readOpened rfl rfl (Nat.le_of_ble_eq_true rfl) rfl (wp_isC (O_65 _)) (Nat.le_refl _) (IO (by omega) k L _ _ hkn hL y2 (rS_op h (op + 1)) (fun S3 h3 f3 => ?_))
          refine wp_Kv ?_
          refine wp_aload_n d_Re_readQ_81 rfl rfl ?_
          refine wp_dup d_Re_readQ_82 rfl ?_
          refine wp_getI d_Re_readQ_83 ow_Re_readQ fl_3_31 (O_65 _) rfl (h3.2.2.1) ?_
          refine wp_iconst (x := nI 1) d_Re_readQ_86 rfl ?_
          refine wp_isub d_Re_readQ_87 ((pk_sub (show 1 ≤ op + 1 by omega)).trans (congrArg nI (show op + 1 - 1 = op by omega))) ?_
          refine wp_put (ty := .int) d_Re_readQ_88 ow_Re_readQ fl_3_31 (by decide +kernel) (by decide +kernel) (O_65 _) rfl ⟨rfl, rfl⟩ ?_
          refine wp_goto (pc' := 99) d_Re_readQ_91 (by decide) ?_
          refine wp_return d_Re_readQ_99 rt_Re_readQ ?_
          exact K _ (rS_op h3 op) (rD_u ((rD_u fr.rf).tr f3))
      · refine wp_Ki ?_
        have ne1 : ¬ ps_b q 0 n k = 33 := fun w => y ⟨rfl, by simp only [List.mem_cons]; exact Or.inl w⟩
        have ne2 : ¬ ps_b q 0 n k = 40 := fun w => y ⟨rfl, by simp only [List.mem_cons]; exact Or.inr (Or.inl w)⟩
        refine wp_ifN_eq (pc' := 94) d_Re_readQ_56 (by decide) (by omega) (fun _ => ?_) (fun q => absurd q (by decide))
        exact K94 (by rw [e, if_neg (fun w => ne1 w.1), if_neg (fun w => ne2 w.1)])
theorem c_rq1 {f op d : Nat} (hd : 6 ≤ d) (hn : n ≤ 50) (hop : op ≤ 5) (hB : rB n (sp_tx q 1)) (IO : op < 5 → rO q 1 n f (op + 1) d) : rQ q 1 n (f + 1) op (d + 1) := by
  intro k L S Q hk hL h K
  have e : ps_p q 1 n (f + 1) 5 op k = sp_pr (ps_b q 1 n) (sp_n0 1) (sp_n1 1) (sp_n2 1) (f + 1) 5 op k := rfl
  rw [sp_pr_s, if_neg (by decide)] at e
  have hnm : S.1 = 10001 := h.1.1
  refine cl_in ml_Re_readQ rfl rfl ?_
  refine wp_aload_n d_Re_readQ_0 rfl rfl ?_
  refine wp_ldc (v := .ref 10003) d_Re_readQ_1 ow_Re_readQ (by decide +kernel) ?_
  refine wp_invV d_Re_readQ_3 ow_Re_readQ lk_3_58 (by decide) mi_Re_isNextOf rfl rfl (Nat.le_of_ble_eq_true rfl) rfl (wp_isC (O_65 _)) (Nat.le_trans (show h_Re_isNextOf ≤ 6 from by decide) hd) (c_next3 h hn hk hB (fun y => ?_) (fun y => ?_))
  · refine wp_Ki ?_
    have y2 := dg_in.mp y.2
    have hkn := dg_lt y2
    rw [if_pos y2] at e
    rw [e] at K
    refine wp_ifN_eq (pc' := 16) d_Re_readQ_6 (by decide) (by omega) (fun q => absurd q (by decide)) (fun _ => ?_)
    refine wp_aload_n d_Re_readQ_9 rfl rfl ?_
    refine wp_invV d_Re_readQ_10 ow_Re_readQ lk_3_83 (by decide) mi_Re_readNumber rfl rfl (Nat.le_of_ble_eq_true rfl) rfl (wp_isC (O_65 _)) (Nat.le_trans (show h_Re_readNumber ≤ 6 from by decide) hd) (c_readNumber h hn hB hk (by omega) (fun S2 h2 f2 => ?_))
    refine wp_Kv ?_
    refine wp_goto (pc' := 99) d_Re_readQ_13 (by decide) ?_
    refine wp_return d_Re_readQ_99 rt_Re_readQ ?_
    exact K S2 h2 f2
  · refine wp_Ki ?_
    have y1 : ¬ sp_dg (ps_b q 1 n k) = true := fun z => y ⟨rfl, dg_in.mpr z⟩
    rw [if_neg y1] at e
    refine wp_ifN_eq (pc' := 16) d_Re_readQ_6 (by decide) (by omega) (fun _ => ?_) (fun q => absurd q (by decide))
    refine wp_aload_n d_Re_readQ_16 rfl rfl ?_
    refine wp_aload_n d_Re_readQ_17 rfl rfl ?_
    refine wp_getR d_Re_readQ_18 ow_Re_readQ fl_3_21 (O_65 _) rfl ?_
    rw [hnm]
    refine wp_invV d_Re_readQ_21 ow_Re_readQ lk_3_58 (by decide) mi_Re_isNextOf rfl rfl (Nat.le_of_ble_eq_true rfl) rfl (wp_isC (O_65 _)) (Nat.le_trans (show h_Re_isNextOf ≤ 6 from by decide) hd) (c_next1 h hn hk hB (fun z => ?_) (fun z => ?_))
    · refine wp_Ki ?_
      have z2 := z.2
      simp only [List.mem_cons, List.not_mem_nil, or_false] at z2
      have hkn : k < n := by
        rcases z2 with z2 | z2 | z2
        · exact by_ge' z2 (by decide)
        · exact by_ge' z2 (by decide)
        · exact by_ge' z2 (by decide)
      obtain ⟨b, hb, eb⟩ := hB k hkn
      have hbk : ps_b q 1 n k = nI b := (sp_by_lt hkn).trans eb
      have ex : ∃ i, i < 3 ∧ sp_xo (nI b) [97, 110, 109] 3 0 = nI i ∧ ps_p q 1 n (f + 1) 5 op k = (true, k + 1, [nI 10000 + nI i]) := by
        rw [show sp_by (sp_tx q 1) n k = nI b from hbk] at z2
        by_cases g0 : nI b = 97
        · refine ⟨0, by decide, ?_, ?_⟩
          · rw [sp_xo_s, if_pos (show ([97, 110, 109] : List Int32).getD 0 0 = nI b from g0.symm)]
          · rw [e, if_pos (show ps_b q 1 n k = sp_n0 1 from hbk.trans g0)]
            rfl
        · by_cases g1 : nI b = 110
          · refine ⟨1, by decide, ?_, ?_⟩
            · rw [sp_xo_s, if_neg (show ¬ ([97, 110, 109] : List Int32).getD 0 0 = nI b from fun w => g0 w.symm), sp_xo_s, if_pos (show ([97, 110, 109] : List Int32).getD 1 0 = nI b from g1.symm)]
            · rw [e, if_neg (show ¬ ps_b q 1 n k = sp_n0 1 from fun w => g0 (hbk.symm.trans w)), if_pos (show ps_b q 1 n k = sp_n1 1 from hbk.trans g1)]
              rfl
          · have g2 : nI b = 109 := by
              rcases z2 with w | w | w
              · exact absurd w g0
              · exact absurd w g1
              · exact w
            refine ⟨2, by decide, ?_, ?_⟩
            · rw [sp_xo_s, if_neg (show ¬ ([97, 110, 109] : List Int32).getD 0 0 = nI b from fun w => g0 w.symm), sp_xo_s, if_neg (show ¬ ([97, 110, 109] : List Int32).getD 1 0 = nI b from fun w => g1 w.symm), sp_xo_s, if_pos (show ([97, 110, 109] : List Int32).getD 2 0 = nI b from g2.symm)]
            · rw [e, if_neg (show ¬ ps_b q 1 n k = sp_n0 1 from fun w => g0 (hbk.symm.trans w)), if_neg (show ¬ ps_b q 1 n k = sp_n1 1 from fun w => g1 (hbk.symm.trans w)), if_pos (show ps_b q 1 n k = sp_n2 1 from hbk.trans g2)]
              rfl
      obtain ⟨i, hi, ei, ep⟩ := ex
      rw [ep] at K
      have h2 := rS_at h (k + 1)
      refine wp_ifN_eq (pc' := 50) d_Re_readQ_24 (by decide) (by omega) (fun q => absurd q (by decide)) (fun _ => ?_)
      refine wp_aload_n d_Re_readQ_27 rfl rfl ?_
      refine wp_sipush (x := nI 10000) d_Re_readQ_28 (by decide) ?_
      refine wp_aload_n d_Re_readQ_31 rfl rfl ?_
      refine wp_getR d_Re_readQ_32 ow_Re_readQ fl_3_21 (O_65 _) rfl ?_
      rw [hnm]
      refine wp_aload_n d_Re_readQ_35 rfl rfl ?_
      refine wp_invV d_Re_readQ_36 ow_Re_readQ lk_3_62 (by decide) mi_Re_take rfl rfl (Nat.le_of_ble_eq_true rfl) rfl (wp_isC (O_65 _)) (Nat.le_trans (show h_Re_take ≤ 6 from by decide) hd) (c_take h hn hkn (lf_i eb ?_))
      refine wp_Ki ?_
      refine wp_i2c d_Re_readQ_39 (i_c2 (by omega)) ?_
      refine wp_invV d_Re_readQ_40 ow_Re_readQ lk_3_86 (by decide) mi_Js_indexOf rfl rfl (Nat.le_of_ble_eq_true rfl) rfl rfl (Nat.le_trans (show h_Js_indexOf ≤ 6 from by decide) hd) (c_ix1 hb (lf_i ei ?_))
      refine wp_Ki ?_
      refine wp_iadd d_Re_readQ_43 ((rfl : _ = nI 10000 + nI i)) ?_
      refine wp_invV d_Re_readQ_44 ow_Re_readQ lk_3_68 (by decide) mi_Re_emit rfl rfl (Nat.le_of_ble_eq_true rfl) rfl (wp_isC (O_65 _)) (Nat.le_trans (show h_Re_emit ≤ 6 from by decide) hd) (c_emit h2 (by omega) _ ?_)
      refine wp_Kv ?_
      refine wp_goto (pc' := 99) d_Re_readQ_47 (by decide) ?_
      refine wp_return d_Re_readQ_99 rt_Re_readQ ?_
      exact K _ (rS_em h2 _) (((rD_u fr.rf).up (Or.inr rfl)).up (Or.inl rfl))
    · refine wp_Ki ?_
      have w0 : ¬ ps_b q 1 n k = sp_n0 1 := fun w => z ⟨rfl, by simp only [List.mem_cons]; exact Or.inl w⟩
      have w1 : ¬ ps_b q 1 n k = sp_n1 1 := fun w => z ⟨rfl, by simp only [List.mem_cons]; exact Or.inr (Or.inl w)⟩
      have w2 : ¬ ps_b q 1 n k = sp_n2 1 := fun w => z ⟨rfl, by simp only [List.mem_cons]; exact Or.inr (Or.inr (Or.inl w))⟩
      rw [if_neg w0, if_neg w1, if_neg w2] at e
      have K94 : ps_p q 1 n (f + 1) 5 op k = (false, k, []) → wp d y_Re_readQ 94 [some (.ref 65)] [] S Q := by
        intro ep
        rw [ep] at K
        refine wp_aload_n d_Re_readQ_94 rfl rfl ?_
        refine wp_iconst (x := nI 1) d_Re_readQ_95 rfl ?_
        refine wp_put (ty := .boolean) d_Re_readQ_96 ow_Re_readQ fl_3_34 (by decide +kernel) (by decide +kernel) (O_65 _) rfl ⟨rfl, rfl⟩ ?_
        refine wp_return d_Re_readQ_99 rt_Re_readQ ?_
        exact K _ (by show rS _ 1 n (sp_tx q 1) k op false (L ++ []); rw [List.append_nil]; exact rS_bad h) (rD_u fr.rf)
      refine wp_ifN_eq (pc' := 50) d_Re_readQ_24 (by decide) (by omega) (fun _ => ?_) (fun q => absurd q (by decide))
      refine wp_aload_n d_Re_readQ_50 rfl rfl ?_
      refine wp_ldc (v := .ref 10004) d_Re_readQ_51 ow_Re_readQ (by decide +kernel) ?_
      refine wp_invV d_Re_readQ_53 ow_Re_readQ lk_3_58 (by decide) mi_Re_isNextOf rfl rfl (Nat.le_of_ble_eq_true rfl) rfl (wp_isC (O_65 _)) (Nat.le_trans (show h_Re_isNextOf ≤ 6 from by decide) hd) (c_next4 h hn hk hB (fun y => ?_) (fun y => ?_))
      · refine wp_Ki ?_
        have y2 := y.2
        simp only [List.mem_cons, List.not_mem_nil, or_false] at y2
        have hkn : k < n := by
          rcases y2 with y2 | y2
          · exact by_ge' y2 (by decide)
          · exact by_ge' y2 (by decide)
        have go : op < 5 → ps_p q 1 n (f + 1) 5 op k = rR q 1 n f (op + 1) k := by
          intro h5
          unfold rR
          rcases y2 with y2 | y2
          · rw [e, if_pos ⟨y2, h5⟩, if_pos y2]
          · have ne : ¬ ps_b q 1 n k = 33 := fun w => absurd (y2.symm.trans w) (by decide)
            rw [e, if_neg (fun w => ne w.1), if_pos ⟨y2, h5⟩, if_neg ne]
        refine wp_ifN_eq (pc' := 94) d_Re_readQ_56 (by decide) (by omega) (fun q => absurd q (by decide)) (fun _ => ?_)
        refine wp_aload_n d_Re_readQ_59 rfl rfl ?_
        refine wp_getI d_Re_readQ_60 ow_Re_readQ fl_3_31 (O_65 _) rfl (h.2.2.1) ?_
        refine wp_iconst (x := nI 5) d_Re_readQ_63 rfl ?_
        refine wp_icN_ge (pc' := 94) d_Re_readQ_64 (by decide) (by omega) (by omega) (fun h64 => ?_) (fun h64 => ?_)
        · exact K94 (by rw [e, if_neg (fun w => absurd w.2 (by omega)), if_neg (fun w => absurd w.2 (by omega))])
        · refine wp_aload_n d_Re_readQ_67 rfl rfl ?_
          refine wp_dup d_Re_readQ_68 rfl ?_
          refine wp_getI d_Re_readQ_69 ow_Re_readQ fl_3_31 (O_65 _) rfl (h.2.2.1) ?_
          refine wp_iconst (x := nI 1) d_Re_readQ_72 rfl ?_
          refine wp_iadd d_Re_readQ_73 (nI_add _ _) ?_
          refine wp_put (ty := .int) d_Re_readQ_74 ow_Re_readQ fl_3_31 (by decide +kernel) (by decide +kernel) (O_65 _) rfl ⟨rfl, rfl⟩ ?_
          rw [go (by omega)] at K
          refine wp_aload_n d_Re_readQ_77 rfl rfl ?_
          refine wp_invV d_Re_readQ_78 ow_Re_readQ lk_3_94 (by decide) mi_Re_readOpened rfl rfl (Nat.le_of_ble_eq_true rfl) rfl (wp_isC (O_65 _)) (Nat.le_refl _) (IO (by omega) k L _ _ hkn hL y2 (rS_op h (op + 1)) (fun S3 h3 f3 => ?_))
          refine wp_Kv ?_
          refine wp_aload_n d_Re_readQ_81 rfl rfl ?_
          refine wp_dup d_Re_readQ_82 rfl ?_
          refine wp_getI d_Re_readQ_83 ow_Re_readQ fl_3_31 (O_65 _) rfl (h3.2.2.1) ?_
          refine wp_iconst (x := nI 1) d_Re_readQ_86 rfl ?_
          refine wp_isub d_Re_readQ_87 ((pk_sub (show 1 ≤ op + 1 by omega)).trans (congrArg nI (show op + 1 - 1 = op by omega))) ?_
          refine wp_put (ty := .int) d_Re_readQ_88 ow_Re_readQ fl_3_31 (by decide +kernel) (by decide +kernel) (O_65 _) rfl ⟨rfl, rfl⟩ ?_
          refine wp_goto (pc' := 99) d_Re_readQ_91 (by decide) ?_
          refine wp_return d_Re_readQ_99 rt_Re_readQ ?_
          exact K _ (rS_op h3 op) (rD_u ((rD_u fr.rf).tr f3))
      · refine wp_Ki ?_
        have ne1 : ¬ ps_b q 1 n k = 33 := fun w => y ⟨rfl, by simp only [List.mem_cons]; exact Or.inl w⟩
        have ne2 : ¬ ps_b q 1 n k = 40 := fun w => y ⟨rfl, by simp only [List.mem_cons]; exact Or.inr (Or.inl w)⟩
        refine wp_ifN_eq (pc' := 94) d_Re_readQ_56 (by decide) (by omega) (fun _ => ?_) (fun q => absurd q (by decide))
        exact K94 (by rw [e, if_neg (fun w => ne1 w.1), if_neg (fun w => ne2 w.1)])
theorem c_rq {f op d : Nat} (hu : u < 2) (hd : 6 ≤ d) (hn : n ≤ 50) (hop : op ≤ 5) (hB : rB n (sp_tx q u)) (IO : op < 5 → rO q u n f (op + 1) d) : rQ q u n (f + 1) op (d + 1) := by
  rcases (show u = 0 ∨ u = 1 by omega) with rfl | rfl
  · exact c_rq0 hd hn hop hB IO
  · exact c_rq1 hd hn hop hB IO
theorem rL_up {f lv op d e : Nat} (h : d ≤ e) (x : rL q u n f lv op d) : rL q u n f lv op e := fun k L S Q a b c K => cl_mono h (x k L S Q a b c K)
theorem c_read (hu : u < 2) (hn : n ≤ 50) (hB : rB n (sp_tx q u)) : ∀ f, (∀ op, op ≤ 5 → (5 - op) * 6 + 1 ≤ f → rQ q u n f op (rEQ op)) ∧ ∀ lv op, lv ≤ 5 → op ≤ 5 → (5 - op) * 6 + (6 - lv) ≤ f → rL q u n f lv op (rEQ op + (6 - lv)) := by
  intro f
  induction f with
  | zero => exact ⟨fun op h1 h2 => by omega, fun lv op h1 h2 h3 => by omega⟩
  | succ f ih =>
    have hQ : ∀ op, op ≤ 5 → (5 - op) * 6 + 1 ≤ f + 1 → rQ q u n (f + 1) op (rEQ op) := by
      intro op h1 h2
      have IO : op < 5 → rO q u n f (op + 1) (rEQ (op + 1) + 7) := fun h5 => by
        have a := ih.1 (op + 1) (by omega) (by omega)
        have b := ih.2 0 (op + 1) (by omega) (by omega) (by omega)
        have a' : rQ q u n f (op + 1) (rEQ (op + 1) + 6) := fun k L S Q x y w K => cl_mono (Nat.le_add_right _ _) (a k L S Q x y w K)
        exact c_opened (by omega) hn hB a' b
      by_cases h5 : op < 5
      · have := c_rq (f := f) (op := op) hu (show 6 ≤ rEQ (op + 1) + 7 by omega) hn h1 hB (fun _ => IO h5)
        have e : rEQ op = rEQ (op + 1) + 7 + 1 := by unfold rEQ; omega
        rw [e]
        exact this
      · obtain rfl : op = 5 := by omega
        exact c_rq (f := f) (op := 5) (d := 6) hu (by decide) hn h1 hB (fun h => absurd h h5)
    refine ⟨hQ, fun lv op h1 h2 h3 => ?_⟩
    have h7 : 7 ≤ rEQ op := by unfold rEQ; omega
    rcases (show lv = 0 ∨ lv = 1 ∨ lv = 2 ∨ lv = 3 ∨ lv = 4 ∨ lv = 5 by omega) with rfl | rfl | rfl | rfl | rfl | rfl
    · exact c_lv0 (by omega) hn hB (ih.2 1 op (by omega) h2 (by omega))
    · exact c_lv1 (by omega) hn hB (ih.2 2 op (by omega) h2 (by omega))
    · exact c_lv2 (by omega) hn hB (ih.2 3 op (by omega) h2 (by omega))
    · exact c_lv3 (by omega) hn hB (ih.2 4 op (by omega) h2 (by omega))
    · exact c_lv4 (by omega) hn hB (ih.2 5 op (by omega) h2 (by omega))
    · exact c_lv5 (hQ op h2 (by omega))
end CZ
