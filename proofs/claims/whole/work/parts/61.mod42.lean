/-! the reference: voices -/
def sp_vh (n x : Int32) (k : Nat) : List Int32 × Int32 := if k = 1 ∨ k = 4 then ([nI 20, nI 10], (x + n) * nI 3) else ([nI 10], x + n)
def sp_vf (n m x : Int32) (k : Nat) : List Int32 × Int32 := if k = 5 then ([nI 60, nI 30, nI 12], (-(x - m)) ^^^ n) else if k = 2 then ([nI 30, nI 12], -(x - m)) else ([nI 12], x - m)
def sp_v0 (n : Int32) (K : Nat) (x : Int32) : List Int32 × Int32 := (nI 11 :: (sp_vh n x K).1, (sp_vh n x K).2 * nI 2)
def sp_v3 (n m : Int32) (K : Nat) (x : Int32) : List Int32 × Int32 := (nI 40 :: ((sp_v0 n K x).1 ++ (sp_vf n m (nI 1) K).1), (sp_v0 n K x).2 - (sp_vf n m (nI 1) K).2)
def sp_vs (n m : Int32) (K : Nat) (x : Int32) (k : Nat) : List Int32 × Int32 := if k = 6 then (nI 70 :: (sp_v3 n m K (x + nI 1)).1, (sp_v3 n m K (x + nI 1)).2) else if k = 3 then sp_v3 n m K x else sp_v0 n K x
def sp_vt0 (n m : Int32) (K : Nat) (x : Int32) : List Int32 × Int32 := (nI 13 :: ((sp_vs n m K x K).1 ++ (sp_vf n m x K).1), (sp_vs n m K x K).2 ^^^ (sp_vf n m x K).2)
def sp_vt (n m : Int32) (K : Nat) (x : Int32) (k : Nat) : List Int32 × Int32 := if k = 4 then (nI 50 :: ((sp_vt0 n m K x).1 ++ (sp_vh n (nI 2) K).1), (sp_vt0 n m K x).2 - (sp_vh n (nI 2) K).2) else if k = 5 then (nI 61 :: ((sp_vs n m K x K).1 ++ (sp_vt0 n m K x).1), (sp_vs n m K x K).2 - (sp_vt0 n m K x).2) else sp_vt0 n m K x
theorem sp_vh_le (n x : Int32) (k : Nat) : (sp_vh n x k).1.length ≤ 2 := by unfold sp_vh; split <;> exact Nat.le_of_ble_eq_true rfl
theorem sp_vf_le (n m x : Int32) (k : Nat) : (sp_vf n m x k).1.length ≤ 3 := by
  unfold sp_vf
  split
  · exact Nat.le_of_ble_eq_true rfl
  · split <;> exact Nat.le_of_ble_eq_true rfl
theorem sp_v0_le (n : Int32) (K : Nat) (x : Int32) : (sp_v0 n K x).1.length ≤ 3 := Nat.succ_le_succ (sp_vh_le n x K)
theorem sp_v3_le (n m : Int32) (K : Nat) (x : Int32) : (sp_v3 n m K x).1.length ≤ 7 := by
  have := sp_v0_le n K x
  have := sp_vf_le n m (nI 1) K
  unfold sp_v3
  rw [List.length_cons, List.length_append]
  omega
theorem sp_vs_le (n m : Int32) (K : Nat) (x : Int32) (k : Nat) : (sp_vs n m K x k).1.length ≤ 8 := by
  unfold sp_vs
  split
  · exact Nat.succ_le_succ (sp_v3_le n m K _)
  · split
    · exact Nat.le_succ_of_le (sp_v3_le n m K _)
    · exact Nat.le_trans (sp_v0_le n K _) (by decide)
theorem sp_vt0_le (n m : Int32) (K : Nat) (x : Int32) : (sp_vt0 n m K x).1.length ≤ 12 := by
  have := sp_vs_le n m K x K
  have := sp_vf_le n m x K
  unfold sp_vt0
  rw [List.length_cons, List.length_append]
  omega
theorem sp_vt_le (n m : Int32) (K : Nat) (x : Int32) (k : Nat) : (sp_vt n m K x k).1.length ≤ 21 := by
  have := sp_vs_le n m K x K
  have := sp_vt0_le n m K x
  have := sp_vh_le n (nI 2) K
  unfold sp_vt
  split
  · rw [List.length_cons, List.length_append]
    omega
  · split
    · rw [List.length_cons, List.length_append]
      omega
    · omega
theorem wp_us {S : wp_S} {k j : Nat} {x : Int32} : (wp_u S k j x).2 k j = x := if_pos ⟨rfl, rfl⟩
/-- bodies marked down -/
def vr (S : wp_S) (t : Nat) (b : Int32) : wp_S := wp_u (wp_u S 104 t b) 91 24 (nI (t + 1))
def vl : wp_S → Nat → List Int32 → wp_S
  | S, _, [] => S
  | S, t, b :: l => vl (vr S t b) (t + 1) l
theorem vl_app : ∀ (l m : List Int32) (S : wp_S) (t : Nat), vl S t (l ++ m) = vl (vl S t l) (t + l.length) m
  | [], m, S, t => rfl
  | b :: l, m, S, t => by
    show vl (vr S t b) (t + 1) (l ++ m) = vl (vl (vr S t b) (t + 1) l) (t + (l.length + 1)) m
    rw [vl_app l m, show t + (l.length + 1) = t + 1 + l.length by omega]
def vC (S : wp_S) (K : Nat) (n m : Int32) (t : Nat) : Prop := S.2 91 24 = nI t ∧ S.2 91 25 = nI K ∧ S.2 91 26 = n ∧ S.2 91 27 = m
theorem vC_r {S : wp_S} {K : Nat} {n m : Int32} {t : Nat} (C : vC S K n m t) (b : Int32) : vC (vr S t b) K n m (t + 1) := ⟨wp_us, (wp_un (by omega)).trans ((wp_un (by omega)).trans C.2.1), (wp_un (by omega)).trans ((wp_un (by omega)).trans C.2.2.1), (wp_un (by omega)).trans ((wp_un (by omega)).trans C.2.2.2)⟩
theorem vC_l {K : Nat} {n m : Int32} : ∀ (l : List Int32) {S : wp_S} {t : Nat}, vC S K n m t → vC (vl S t l) K n m (t + l.length)
  | [], _, _, C => C
  | b :: l, S, t, C => by
    have := vC_l l (vC_r C b)
    rw [show t + (b :: l).length = t + 1 + l.length by rw [List.length_cons]; omega]
    exact this
section VO
variable {S : wp_S} {q : sp_R} {mu : Int32} {Q : Option Value → wp_S → Prop}
theorem m_ran {t : Nat} (h : S.2 91 24 = nI t) (ht : t < 40) (b : Int32) (K : Q none (vr S t b)) : cl h_Mo_ran y_Mo_ran [.ref k_Mo, .int b] S Q := by
  refine cl_in ml_Mo_ran rfl rfl ?_
  refine wp_aload_n d_Mo_ran_0 rfl rfl ?_
  refine wp_getI d_Mo_ran_1 ow_Mo_ran fl_8_224 (O_91 _) rfl (h) ?_
  refine wp_bipush (x := nI 40) d_Mo_ran_4 (by decide) ?_
  refine wp_icN_ge (pc' := 29) d_Mo_ran_6 (by decide) (by omega) (by omega) (fun h6 => absurd h6 (by omega)) (fun h6 => ?_)
  refine wp_aload_n d_Mo_ran_9 rfl rfl ?_
  refine wp_getR d_Mo_ran_10 ow_Mo_ran fl_8_50 (O_91 _) rfl ?_
  refine wp_aload_n d_Mo_ran_13 rfl rfl ?_
  refine wp_getI d_Mo_ran_14 ow_Mo_ran fl_8_224 (O_91 _) rfl (h) ?_
  refine wp_iload_n d_Mo_ran_17 rfl rfl ?_
  refine wp_iastore d_Mo_ran_18 (A_104 _) (by omega) (by decide) ?_
  refine wp_aload_n d_Mo_ran_19 rfl rfl ?_
  refine wp_dup d_Mo_ran_20 rfl ?_
  refine wp_getI d_Mo_ran_21 ow_Mo_ran fl_8_224 (O_91 _) rfl ((wp_un (a := 91) (b := 24) (k := 104) (by omega)).trans h) ?_
  refine wp_iconst (x := nI 1) d_Mo_ran_24 rfl ?_
  refine wp_iadd d_Mo_ran_25 (nI_add _ _) ?_
  refine wp_put (ty := .int) d_Mo_ran_26 ow_Mo_ran fl_8_224 (by decide +kernel) (by decide +kernel) (O_91 _) rfl ⟨rfl, rfl⟩ ?_
  refine wp_return d_Mo_ran_29 rt_Mo_ran ?_
  exact K
/-- what a voice's part does -/
def vT (d y : Nat) (K : Nat) (n m : Int32) (k : Nat) (x : Int32) (r : List Int32 × Int32) : Prop := ∀ (S : wp_S) (Q : Option Value → wp_S → Prop) (t : Nat), vC S K n m t → t + r.1.length ≤ 40 → Q (some (.int r.2)) (vl S t r.1) → cl d y [.ref k_Mo, .int (nI k), .int x] S Q
theorem vT_up {d e y K k : Nat} {n m x : Int32} {r r' : List Int32 × Int32} (hd : d ≤ e) (hr : r = r') (h : vT d y K n m k x r) : vT e y K n m k x r' := by
  subst hr
  exact fun S Q t C ht K => cl_mono hd (h S Q t C ht K)
theorem m_h0 (K : Nat) (n m x : Int32) : vT 2 y_Mo_hearsIn K n m 0 x ([nI 10], x + n) := by
  intro S Q t C ht k
  have ht : t + 1 ≤ 40 := ht
  refine cl_in ml_Mo_hearsIn rfl rfl ?_
  refine wp_iload_n d_Mo_hearsIn_0 rfl rfl ?_
  refine wp_ifN_ne (pc' := 17) d_Mo_hearsIn_1 (by decide) (by omega) (fun q => absurd q (by decide)) (fun _ => ?_)
  refine wp_aload_n d_Mo_hearsIn_4 rfl rfl ?_
  refine wp_bipush (x := nI 10) d_Mo_hearsIn_5 (by decide) ?_
  refine wp_invV d_Mo_hearsIn_7 ow_Mo_hearsIn lk_8_227 (by decide) mi_Mo_ran rfl rfl (Nat.le_of_ble_eq_true rfl) rfl (wp_isC (O_91 _)) (show h_Mo_ran ≤ _ from by decide) (m_ran C.1 (by omega) _ ?_)
  refine wp_Kv ?_
  refine wp_iload_n d_Mo_hearsIn_10 rfl rfl ?_
  refine wp_aload_n d_Mo_hearsIn_11 rfl rfl ?_
  refine wp_getI d_Mo_hearsIn_12 ow_Mo_hearsIn fl_8_230 (O_91 _) rfl ((vC_r C _).2.2.1) ?_
  refine wp_iadd d_Mo_hearsIn_15 rfl ?_
  refine wp_reti d_Mo_hearsIn_16 rt_Mo_hearsIn ?_
  exact k
theorem m_h1 (K : Nat) (n m x : Int32) : vT 3 y_Mo_hearsIn K n m 1 x ([nI 20, nI 10], (x + n) * nI 3) := by
  intro S Q t C ht k
  have ht : t + 2 ≤ 40 := ht
  refine cl_in ml_Mo_hearsIn rfl rfl ?_
  refine wp_iload_n d_Mo_hearsIn_0 rfl rfl ?_
  refine wp_ifN_ne (pc' := 17) d_Mo_hearsIn_1 (by decide) (by omega) (fun _ => ?_) (fun q => absurd q (by decide))
  refine wp_iload_n d_Mo_hearsIn_17 rfl rfl ?_
  refine wp_iconst (x := nI 1) d_Mo_hearsIn_18 rfl ?_
  refine wp_icN_ne (pc' := 37) d_Mo_hearsIn_19 (by decide) (by omega) (by omega) (fun q => absurd q (by decide)) (fun _ => ?_)
  refine wp_aload_n d_Mo_hearsIn_22 rfl rfl ?_
  refine wp_bipush (x := nI 20) d_Mo_hearsIn_23 (by decide) ?_
  refine wp_invV d_Mo_hearsIn_25 ow_Mo_hearsIn lk_8_227 (by decide) mi_Mo_ran rfl rfl (Nat.le_of_ble_eq_true rfl) rfl (wp_isC (O_91 _)) (show h_Mo_ran ≤ _ from by decide) (m_ran C.1 (by omega) _ ?_)
  refine wp_Kv ?_
  refine wp_aload_n d_Mo_hearsIn_28 rfl rfl ?_
  refine wp_iconst (x := nI 0) d_Mo_hearsIn_29 rfl ?_
  refine wp_iload_n d_Mo_hearsIn_30 rfl rfl ?_
  refine wp_invV d_Mo_hearsIn_31 ow_Mo_hearsIn lk_8_233 (by decide) mi_Mo_hearsIn rfl rfl (Nat.le_of_ble_eq_true rfl) rfl (wp_isC (O_91 _)) (Nat.le_refl _) (m_h0 K n m x _ _ _ (vC_r C _) (by show t + 1 + 1 ≤ 40; omega) ?_)
  refine wp_Ki ?_
  refine wp_iconst (x := nI 3) d_Mo_hearsIn_34 rfl ?_
  refine wp_imul d_Mo_hearsIn_35 rfl ?_
  refine wp_reti d_Mo_hearsIn_36 rt_Mo_hearsIn ?_
  exact k
theorem m_hup {d K k k' : Nat} {n m x : Int32} {r : List Int32 × Int32} (hd : 2 ≤ d) (hk : k < 7 ∧ k ≠ 0 ∧ k ≠ 1) (hu : sp_abv k = nI k') (h : vT d y_Mo_hearsIn K n m k' x r) : vT (d + 1) y_Mo_hearsIn K n m k x r := by
  intro S Q t C ht K
  refine cl_in ml_Mo_hearsIn rfl rfl ?_
  refine wp_iload_n d_Mo_hearsIn_0 rfl rfl ?_
  refine wp_ifN_ne (pc' := 17) d_Mo_hearsIn_1 (by decide) (by omega) (fun h1 => ?_) (fun h1 => absurd h1 (by omega))
  refine wp_iload_n d_Mo_hearsIn_17 rfl rfl ?_
  refine wp_iconst (x := nI 1) d_Mo_hearsIn_18 rfl ?_
  refine wp_icN_ne (pc' := 37) d_Mo_hearsIn_19 (by decide) (by omega) (by omega) (fun h19 => ?_) (fun h19 => absurd h19 (by omega))
  refine wp_aload_n d_Mo_hearsIn_37 rfl rfl ?_
  refine wp_iload_n d_Mo_hearsIn_38 rfl rfl ?_
  refine wp_invS d_Mo_hearsIn_39 ow_Mo_hearsIn lk_8_106 (by decide) mi_Mo_above rfl rfl (Nat.le_of_ble_eq_true rfl) rfl (Nat.le_trans (show h_Mo_above ≤ 2 from by decide) hd) (m_above k (by omega) (lf_i hu ?_))
  refine wp_Ki ?_
  refine wp_iload_n d_Mo_hearsIn_42 rfl rfl ?_
  refine wp_invV d_Mo_hearsIn_43 ow_Mo_hearsIn lk_8_233 (by decide) mi_Mo_hearsIn rfl rfl (Nat.le_of_ble_eq_true rfl) rfl (wp_isC (O_91 _)) (Nat.le_refl _) (h S _ t C ht ?_)
  refine wp_Ki ?_
  refine wp_reti d_Mo_hearsIn_46 rt_Mo_hearsIn ?_
  exact K
theorem m_hearsIn (K : Nat) (n m x : Int32) {k : Nat} (hk : k < 7) : vT h_Mo_hearsIn y_Mo_hearsIn K n m k x (sp_vh n x k) := by
  rcases (show k = 0 ∨ k = 1 ∨ k = 2 ∨ k = 3 ∨ k = 4 ∨ k = 5 ∨ k = 6 by omega) with rfl | rfl | rfl | rfl | rfl | rfl | rfl
  · exact vT_up (by decide) rfl (m_h0 K n m x)
  · exact vT_up (by decide) rfl (m_h1 K n m x)
  · exact vT_up (by decide) rfl (m_hup (d := 2) (k' := 0) (by decide) (by decide) rfl (m_h0 K n m x))
  · exact vT_up (by decide) rfl (m_hup (d := 2) (k' := 0) (by decide) (by decide) rfl (m_h0 K n m x))
  · exact vT_up (by decide) rfl (m_hup (d := 3) (k' := 1) (by decide) (by decide) rfl (m_h1 K n m x))
  · exact vT_up (by decide) rfl (m_hup (d := 3) (k' := 2) (by decide) (by decide) rfl (m_hup (d := 2) (k' := 0) (by decide) (by decide) rfl (m_h0 K n m x)))
  · exact vT_up (by decide) rfl (m_hup (d := 3) (k' := 3) (by decide) (by decide) rfl (m_hup (d := 2) (k' := 0) (by decide) (by decide) rfl (m_h0 K n m x)))
theorem m_f0 (K : Nat) (n m x : Int32) : vT 2 y_Mo_fearsIn K n m 0 x ([nI 12], x - m) := by
  intro S Q t C ht k
  have ht : t + 1 ≤ 40 := ht
  refine cl_in ml_Mo_fearsIn rfl rfl ?_
  refine wp_iload_n d_Mo_fearsIn_0 rfl rfl ?_
  refine wp_ifN_ne (pc' := 17) d_Mo_fearsIn_1 (by decide) (by omega) (fun q => absurd q (by decide)) (fun _ => ?_)
  refine wp_aload_n d_Mo_fearsIn_4 rfl rfl ?_
  refine wp_bipush (x := nI 12) d_Mo_fearsIn_5 (by decide) ?_
  refine wp_invV d_Mo_fearsIn_7 ow_Mo_fearsIn lk_8_227 (by decide) mi_Mo_ran rfl rfl (Nat.le_of_ble_eq_true rfl) rfl (wp_isC (O_91 _)) (show h_Mo_ran ≤ _ from by decide) (m_ran C.1 (by omega) _ ?_)
  refine wp_Kv ?_
  refine wp_iload_n d_Mo_fearsIn_10 rfl rfl ?_
  refine wp_aload_n d_Mo_fearsIn_11 rfl rfl ?_
  refine wp_getI d_Mo_fearsIn_12 ow_Mo_fearsIn fl_8_236 (O_91 _) rfl ((vC_r C _).2.2.2) ?_
  refine wp_isub d_Mo_fearsIn_15 rfl ?_
  refine wp_reti d_Mo_fearsIn_16 rt_Mo_fearsIn ?_
  exact k
theorem m_f2 (K : Nat) (n m x : Int32) : vT 3 y_Mo_fearsIn K n m 2 x ([nI 30, nI 12], -(x - m)) := by
  intro S Q t C ht k
  have ht : t + 2 ≤ 40 := ht
  refine cl_in ml_Mo_fearsIn rfl rfl ?_
  refine wp_iload_n d_Mo_fearsIn_0 rfl rfl ?_
  refine wp_ifN_ne (pc' := 17) d_Mo_fearsIn_1 (by decide) (by omega) (fun _ => ?_) (fun q => absurd q (by decide))
  refine wp_iload_n d_Mo_fearsIn_17 rfl rfl ?_
  refine wp_iconst (x := nI 2) d_Mo_fearsIn_18 rfl ?_
  refine wp_icN_ne (pc' := 36) d_Mo_fearsIn_19 (by decide) (by omega) (by omega) (fun q => absurd q (by decide)) (fun _ => ?_)
  refine wp_aload_n d_Mo_fearsIn_22 rfl rfl ?_
  refine wp_bipush (x := nI 30) d_Mo_fearsIn_23 (by decide) ?_
  refine wp_invV d_Mo_fearsIn_25 ow_Mo_fearsIn lk_8_227 (by decide) mi_Mo_ran rfl rfl (Nat.le_of_ble_eq_true rfl) rfl (wp_isC (O_91 _)) (show h_Mo_ran ≤ _ from by decide) (m_ran C.1 (by omega) _ ?_)
  refine wp_Kv ?_
  refine wp_aload_n d_Mo_fearsIn_28 rfl rfl ?_
  refine wp_iconst (x := nI 0) d_Mo_fearsIn_29 rfl ?_
  refine wp_iload_n d_Mo_fearsIn_30 rfl rfl ?_
  refine wp_invV d_Mo_fearsIn_31 ow_Mo_fearsIn lk_8_239 (by decide) mi_Mo_fearsIn rfl rfl (Nat.le_of_ble_eq_true rfl) rfl (wp_isC (O_91 _)) (Nat.le_refl _) (m_f0 K n m x _ _ _ (vC_r C _) (by show t + 1 + 1 ≤ 40; omega) ?_)
  refine wp_Ki ?_
  refine wp_ineg d_Mo_fearsIn_34 (rfl) ?_
  refine wp_reti d_Mo_fearsIn_35 rt_Mo_fearsIn ?_
  exact k
theorem m_f5 (K : Nat) (n m x : Int32) : vT 4 y_Mo_fearsIn K n m 5 x ([nI 60, nI 30, nI 12], (-(x - m)) ^^^ n) := by
  intro S Q t C ht k
  have ht : t + 3 ≤ 40 := ht
  refine cl_in ml_Mo_fearsIn rfl rfl ?_
  refine wp_iload_n d_Mo_fearsIn_0 rfl rfl ?_
  refine wp_ifN_ne (pc' := 17) d_Mo_fearsIn_1 (by decide) (by omega) (fun _ => ?_) (fun q => absurd q (by decide))
  refine wp_iload_n d_Mo_fearsIn_17 rfl rfl ?_
  refine wp_iconst (x := nI 2) d_Mo_fearsIn_18 rfl ?_
  refine wp_icN_ne (pc' := 36) d_Mo_fearsIn_19 (by decide) (by omega) (by omega) (fun _ => ?_) (fun q => absurd q (by decide))
  refine wp_iload_n d_Mo_fearsIn_36 rfl rfl ?_
  refine wp_iconst (x := nI 5) d_Mo_fearsIn_37 rfl ?_
  refine wp_icN_ne (pc' := 59) d_Mo_fearsIn_38 (by decide) (by omega) (by omega) (fun q => absurd q (by decide)) (fun _ => ?_)
  refine wp_aload_n d_Mo_fearsIn_41 rfl rfl ?_
  refine wp_bipush (x := nI 60) d_Mo_fearsIn_42 (by decide) ?_
  refine wp_invV d_Mo_fearsIn_44 ow_Mo_fearsIn lk_8_227 (by decide) mi_Mo_ran rfl rfl (Nat.le_of_ble_eq_true rfl) rfl (wp_isC (O_91 _)) (show h_Mo_ran ≤ _ from by decide) (m_ran C.1 (by omega) _ ?_)
  refine wp_Kv ?_
  refine wp_aload_n d_Mo_fearsIn_47 rfl rfl ?_
  refine wp_iconst (x := nI 2) d_Mo_fearsIn_48 rfl ?_
  refine wp_iload_n d_Mo_fearsIn_49 rfl rfl ?_
  refine wp_invV d_Mo_fearsIn_50 ow_Mo_fearsIn lk_8_239 (by decide) mi_Mo_fearsIn rfl rfl (Nat.le_of_ble_eq_true rfl) rfl (wp_isC (O_91 _)) (Nat.le_refl _) (m_f2 K n m x _ _ _ (vC_r C _) (by show t + 1 + 2 ≤ 40; omega) ?_)
  refine wp_Ki ?_
  refine wp_aload_n d_Mo_fearsIn_53 rfl rfl ?_
  refine wp_getI d_Mo_fearsIn_54 ow_Mo_fearsIn fl_8_230 (O_91 _) rfl ((vC_l [nI 60, nI 30, nI 12] C).2.2.1) ?_
  refine wp_ixor d_Mo_fearsIn_57 rfl ?_
  refine wp_reti d_Mo_fearsIn_58 rt_Mo_fearsIn ?_
  exact k
theorem m_fup {d K k k' : Nat} {n m x : Int32} {r : List Int32 × Int32} (hd : 2 ≤ d) (hk : k < 7 ∧ k ≠ 0 ∧ k ≠ 2 ∧ k ≠ 5) (hu : sp_abv k = nI k') (h : vT d y_Mo_fearsIn K n m k' x r) : vT (d + 1) y_Mo_fearsIn K n m k x r := by
  intro S Q t C ht K
  refine cl_in ml_Mo_fearsIn rfl rfl ?_
  refine wp_iload_n d_Mo_fearsIn_0 rfl rfl ?_
  refine wp_ifN_ne (pc' := 17) d_Mo_fearsIn_1 (by decide) (by omega) (fun h1 => ?_) (fun h1 => absurd h1 (by omega))
  refine wp_iload_n d_Mo_fearsIn_17 rfl rfl ?_
  refine wp_iconst (x := nI 2) d_Mo_fearsIn_18 rfl ?_
  refine wp_icN_ne (pc' := 36) d_Mo_fearsIn_19 (by decide) (by omega) (by omega) (fun h19 => ?_) (fun h19 => absurd h19 (by omega))
  refine wp_iload_n d_Mo_fearsIn_36 rfl rfl ?_
  refine wp_iconst (x := nI 5) d_Mo_fearsIn_37 rfl ?_
  refine wp_icN_ne (pc' := 59) d_Mo_fearsIn_38 (by decide) (by omega) (by omega) (fun h38 => ?_) (fun h38 => absurd h38 (by omega))
  refine wp_aload_n d_Mo_fearsIn_59 rfl rfl ?_
  refine wp_iload_n d_Mo_fearsIn_60 rfl rfl ?_
  refine wp_invS d_Mo_fearsIn_61 ow_Mo_fearsIn lk_8_106 (by decide) mi_Mo_above rfl rfl (Nat.le_of_ble_eq_true rfl) rfl (Nat.le_trans (show h_Mo_above ≤ 2 from by decide) hd) (m_above k (by omega) (lf_i hu ?_))
  refine wp_Ki ?_
  refine wp_iload_n d_Mo_fearsIn_64 rfl rfl ?_
  refine wp_invV d_Mo_fearsIn_65 ow_Mo_fearsIn lk_8_239 (by decide) mi_Mo_fearsIn rfl rfl (Nat.le_of_ble_eq_true rfl) rfl (wp_isC (O_91 _)) (Nat.le_refl _) (h S _ t C ht ?_)
  refine wp_Ki ?_
  refine wp_reti d_Mo_fearsIn_68 rt_Mo_fearsIn ?_
  exact K
theorem m_fearsIn (K : Nat) (n m x : Int32) {k : Nat} (hk : k < 7) : vT h_Mo_fearsIn y_Mo_fearsIn K n m k x (sp_vf n m x k) := by
  rcases (show k = 0 ∨ k = 1 ∨ k = 2 ∨ k = 3 ∨ k = 4 ∨ k = 5 ∨ k = 6 by omega) with rfl | rfl | rfl | rfl | rfl | rfl | rfl
  · exact vT_up (by decide) rfl (m_f0 K n m x)
  · exact vT_up (by decide) rfl (m_fup (d := 2) (k' := 0) (by decide) (by decide) rfl (m_f0 K n m x))
  · exact vT_up (by decide) rfl (m_f2 K n m x)
  · exact vT_up (by decide) rfl (m_fup (d := 2) (k' := 0) (by decide) (by decide) rfl (m_f0 K n m x))
  · exact vT_up (by decide) rfl (m_fup (d := 3) (k' := 1) (by decide) (by decide) rfl (m_fup (d := 2) (k' := 0) (by decide) (by decide) rfl (m_f0 K n m x)))
  · exact vT_up (by decide) rfl (m_f5 K n m x)
  · exact vT_up (by decide) rfl (m_fup (d := 3) (k' := 3) (by decide) (by decide) rfl (m_fup (d := 2) (k' := 0) (by decide) (by decide) rfl (m_f0 K n m x)))
theorem m_s0 {K : Nat} (hK : K < 7) (n m x : Int32) : vT 21 y_Mo_saysIn K n m 0 x (sp_v0 n K x) := by
  intro S Q t C ht k
  have ht : t + ((sp_vh n x K).1.length + 1) ≤ 40 := ht
  refine cl_in ml_Mo_saysIn rfl rfl ?_
  refine wp_iload_n d_Mo_saysIn_0 rfl rfl ?_
  refine wp_ifN_ne (pc' := 22) d_Mo_saysIn_1 (by decide) (by omega) (fun q => absurd q (by decide)) (fun _ => ?_)
  refine wp_aload_n d_Mo_saysIn_4 rfl rfl ?_
  refine wp_bipush (x := nI 11) d_Mo_saysIn_5 (by decide) ?_
  refine wp_invV d_Mo_saysIn_7 ow_Mo_saysIn lk_8_227 (by decide) mi_Mo_ran rfl rfl (Nat.le_of_ble_eq_true rfl) rfl (wp_isC (O_91 _)) (show h_Mo_ran ≤ _ from by decide) (m_ran C.1 (by omega) _ ?_)
  refine wp_Kv ?_
  refine wp_aload_n d_Mo_saysIn_10 rfl rfl ?_
  refine wp_aload_n d_Mo_saysIn_11 rfl rfl ?_
  refine wp_getI d_Mo_saysIn_12 ow_Mo_saysIn fl_8_242 (O_91 _) rfl ((vC_r C _).2.1) ?_
  refine wp_iload_n d_Mo_saysIn_15 rfl rfl ?_
  refine wp_invV d_Mo_saysIn_16 ow_Mo_saysIn lk_8_233 (by decide) mi_Mo_hearsIn rfl rfl (Nat.le_of_ble_eq_true rfl) rfl (wp_isC (O_91 _)) (show h_Mo_hearsIn ≤ _ from by decide) (m_hearsIn K n m x hK _ _ _ (vC_r C _) (by omega) ?_)
  refine wp_Ki ?_
  refine wp_iconst (x := nI 2) d_Mo_saysIn_19 rfl ?_
  refine wp_imul d_Mo_saysIn_20 rfl ?_
  refine wp_reti d_Mo_saysIn_21 rt_Mo_saysIn ?_
  exact k
theorem m_s3 {K : Nat} (hK : K < 7) (n m x : Int32) : vT 22 y_Mo_saysIn K n m 3 x (sp_v3 n m K x) := by
  intro S Q t C ht k
  have hl := sp_v0_le n K x
  have hf := sp_vf_le n m (nI 1) K
  have ht : t + (((sp_v0 n K x).1 ++ (sp_vf n m (nI 1) K).1).length + 1) ≤ 40 := ht
  have k : Q (some (.int ((sp_v0 n K x).2 - (sp_vf n m (nI 1) K).2))) (vl (vr S t (nI 40)) (t + 1) ((sp_v0 n K x).1 ++ (sp_vf n m (nI 1) K).1)) := k
  rw [vl_app] at k
  rw [List.length_append] at ht
  have C3 := vC_l (sp_v0 n K x).1 (vC_r C (nI 40))
  have s0 := m_s0 hK n m x
  generalize sp_v0 n K x = r0 at k ht C3 s0 hl ⊢
  refine cl_in ml_Mo_saysIn rfl rfl ?_
  refine wp_iload_n d_Mo_saysIn_0 rfl rfl ?_
  refine wp_ifN_ne (pc' := 22) d_Mo_saysIn_1 (by decide) (by omega) (fun _ => ?_) (fun q => absurd q (by decide))
  refine wp_iload_n d_Mo_saysIn_22 rfl rfl ?_
  refine wp_iconst (x := nI 3) d_Mo_saysIn_23 rfl ?_
  refine wp_icN_ne (pc' := 52) d_Mo_saysIn_24 (by decide) (by omega) (by omega) (fun q => absurd q (by decide)) (fun _ => ?_)
  refine wp_aload_n d_Mo_saysIn_27 rfl rfl ?_
  refine wp_bipush (x := nI 40) d_Mo_saysIn_28 (by decide) ?_
  refine wp_invV d_Mo_saysIn_30 ow_Mo_saysIn lk_8_227 (by decide) mi_Mo_ran rfl rfl (Nat.le_of_ble_eq_true rfl) rfl (wp_isC (O_91 _)) (show h_Mo_ran ≤ _ from by decide) (m_ran C.1 (by omega) _ ?_)
  refine wp_Kv ?_
  refine wp_aload_n d_Mo_saysIn_33 rfl rfl ?_
  refine wp_iconst (x := nI 0) d_Mo_saysIn_34 rfl ?_
  refine wp_iload_n d_Mo_saysIn_35 rfl rfl ?_
  refine wp_invV d_Mo_saysIn_36 ow_Mo_saysIn lk_8_245 (by decide) mi_Mo_saysIn rfl rfl (Nat.le_of_ble_eq_true rfl) rfl (wp_isC (O_91 _)) (Nat.le_refl _) (s0 _ _ _ (vC_r C _) (by omega) ?_)
  refine wp_Ki ?_
  refine wp_iston3 d_Mo_saysIn_39 rfl ?_
  refine wp_iload_n d_Mo_saysIn_40 rfl rfl ?_
  refine wp_aload_n d_Mo_saysIn_41 rfl rfl ?_
  refine wp_aload_n d_Mo_saysIn_42 rfl rfl ?_
  refine wp_getI d_Mo_saysIn_43 ow_Mo_saysIn fl_8_242 (O_91 _) rfl (C3.2.1) ?_
  refine wp_iconst (x := nI 1) d_Mo_saysIn_46 rfl ?_
  refine wp_invV d_Mo_saysIn_47 ow_Mo_saysIn lk_8_239 (by decide) mi_Mo_fearsIn rfl rfl (Nat.le_of_ble_eq_true rfl) rfl (wp_isC (O_91 _)) (show h_Mo_fearsIn ≤ _ from by decide) (m_fearsIn K n m (nI 1) hK _ _ _ C3 (by omega) ?_)
  refine wp_Ki ?_
  refine wp_isub d_Mo_saysIn_50 rfl ?_
  refine wp_reti d_Mo_saysIn_51 rt_Mo_saysIn ?_
  exact k
theorem m_s6 {K : Nat} (hK : K < 7) (n m x : Int32) : vT 23 y_Mo_saysIn K n m 6 x (nI 70 :: (sp_v3 n m K (x + nI 1)).1, (sp_v3 n m K (x + nI 1)).2) := by
  intro S Q t C ht k
  have ht : t + ((sp_v3 n m K (x + nI 1)).1.length + 1) ≤ 40 := ht
  refine cl_in ml_Mo_saysIn rfl rfl ?_
  refine wp_iload_n d_Mo_saysIn_0 rfl rfl ?_
  refine wp_ifN_ne (pc' := 22) d_Mo_saysIn_1 (by decide) (by omega) (fun _ => ?_) (fun q => absurd q (by decide))
  refine wp_iload_n d_Mo_saysIn_22 rfl rfl ?_
  refine wp_iconst (x := nI 3) d_Mo_saysIn_23 rfl ?_
  refine wp_icN_ne (pc' := 52) d_Mo_saysIn_24 (by decide) (by omega) (by omega) (fun _ => ?_) (fun q => absurd q (by decide))
  refine wp_iload_n d_Mo_saysIn_52 rfl rfl ?_
  refine wp_bipush (x := nI 6) d_Mo_saysIn_53 (by decide) ?_
  refine wp_icN_ne (pc' := 73) d_Mo_saysIn_55 (by decide) (by omega) (by omega) (fun q => absurd q (by decide)) (fun _ => ?_)
  refine wp_aload_n d_Mo_saysIn_58 rfl rfl ?_
  refine wp_bipush (x := nI 70) d_Mo_saysIn_59 (by decide) ?_
  refine wp_invV d_Mo_saysIn_61 ow_Mo_saysIn lk_8_227 (by decide) mi_Mo_ran rfl rfl (Nat.le_of_ble_eq_true rfl) rfl (wp_isC (O_91 _)) (show h_Mo_ran ≤ _ from by decide) (m_ran C.1 (by omega) _ ?_)
  refine wp_Kv ?_
  refine wp_aload_n d_Mo_saysIn_64 rfl rfl ?_
  refine wp_iconst (x := nI 3) d_Mo_saysIn_65 rfl ?_
  refine wp_iload_n d_Mo_saysIn_66 rfl rfl ?_
  refine wp_iconst (x := nI 1) d_Mo_saysIn_67 rfl ?_
  refine wp_iadd d_Mo_saysIn_68 rfl ?_
  refine wp_invV d_Mo_saysIn_69 ow_Mo_saysIn lk_8_245 (by decide) mi_Mo_saysIn rfl rfl (Nat.le_of_ble_eq_true rfl) rfl (wp_isC (O_91 _)) (Nat.le_refl _) (m_s3 hK n m (x + nI 1) _ _ _ (vC_r C _) (by omega) ?_)
  refine wp_Ki ?_
  refine wp_reti d_Mo_saysIn_72 rt_Mo_saysIn ?_
  exact k
theorem m_sup {d K k k' : Nat} {n m x : Int32} {r : List Int32 × Int32} (hd : 2 ≤ d) (hk : k < 7 ∧ k ≠ 0 ∧ k ≠ 3 ∧ k ≠ 6) (hu : sp_abv k = nI k') (h : vT d y_Mo_saysIn K n m k' x r) : vT (d + 1) y_Mo_saysIn K n m k x r := by
  intro S Q t C ht K
  refine cl_in ml_Mo_saysIn rfl rfl ?_
  refine wp_iload_n d_Mo_saysIn_0 rfl rfl ?_
  refine wp_ifN_ne (pc' := 22) d_Mo_saysIn_1 (by decide) (by omega) (fun h1 => ?_) (fun h1 => absurd h1 (by omega))
  refine wp_iload_n d_Mo_saysIn_22 rfl rfl ?_
  refine wp_iconst (x := nI 3) d_Mo_saysIn_23 rfl ?_
  refine wp_icN_ne (pc' := 52) d_Mo_saysIn_24 (by decide) (by omega) (by omega) (fun h24 => ?_) (fun h24 => absurd h24 (by omega))
  refine wp_iload_n d_Mo_saysIn_52 rfl rfl ?_
  refine wp_bipush (x := nI 6) d_Mo_saysIn_53 (by decide) ?_
  refine wp_icN_ne (pc' := 73) d_Mo_saysIn_55 (by decide) (by omega) (by omega) (fun h55 => ?_) (fun h55 => absurd h55 (by omega))
  refine wp_aload_n d_Mo_saysIn_73 rfl rfl ?_
  refine wp_iload_n d_Mo_saysIn_74 rfl rfl ?_
  refine wp_invS d_Mo_saysIn_75 ow_Mo_saysIn lk_8_106 (by decide) mi_Mo_above rfl rfl (Nat.le_of_ble_eq_true rfl) rfl (Nat.le_trans (show h_Mo_above ≤ 2 from by decide) hd) (m_above k (by omega) (lf_i hu ?_))
  refine wp_Ki ?_
  refine wp_iload_n d_Mo_saysIn_78 rfl rfl ?_
  refine wp_invV d_Mo_saysIn_79 ow_Mo_saysIn lk_8_245 (by decide) mi_Mo_saysIn rfl rfl (Nat.le_of_ble_eq_true rfl) rfl (wp_isC (O_91 _)) (Nat.le_refl _) (h S _ t C ht ?_)
  refine wp_Ki ?_
  refine wp_reti d_Mo_saysIn_82 rt_Mo_saysIn ?_
  exact K
theorem m_saysIn {K : Nat} (hK : K < 7) (n m x : Int32) {k : Nat} (hk : k < 7) : vT h_Mo_saysIn y_Mo_saysIn K n m k x (sp_vs n m K x k) := by
  have s0 := m_s0 hK n m x
  rcases (show k = 0 ∨ k = 1 ∨ k = 2 ∨ k = 3 ∨ k = 4 ∨ k = 5 ∨ k = 6 by omega) with rfl | rfl | rfl | rfl | rfl | rfl | rfl
  · exact vT_up (by decide) rfl s0
  · exact vT_up (by decide) rfl (m_sup (d := 21) (k' := 0) (by decide) (by decide) rfl s0)
  · exact vT_up (by decide) rfl (m_sup (d := 21) (k' := 0) (by decide) (by decide) rfl s0)
  · exact vT_up (by decide) rfl (m_s3 hK n m x)
  · exact vT_up (by decide) rfl (m_sup (d := 22) (k' := 1) (by decide) (by decide) rfl (m_sup (d := 21) (k' := 0) (by decide) (by decide) rfl s0))
  · exact vT_up (by decide) rfl (m_sup (d := 22) (k' := 2) (by decide) (by decide) rfl (m_sup (d := 21) (k' := 0) (by decide) (by decide) rfl s0))
  · exact vT_up (by decide) rfl (m_s6 hK n m x)
theorem m_t0 {K : Nat} (hK : K < 7) (n m x : Int32) : vT 31 y_Mo_tellsIn K n m 0 x (sp_vt0 n m K x) := by
  intro S Q t C ht k
  have ht : t + (((sp_vs n m K x K).1 ++ (sp_vf n m x K).1).length + 1) ≤ 40 := ht
  have k : Q (some (.int ((sp_vs n m K x K).2 ^^^ (sp_vf n m x K).2))) (vl (vr S t (nI 13)) (t + 1) ((sp_vs n m K x K).1 ++ (sp_vf n m x K).1)) := k
  rw [vl_app] at k
  rw [List.length_append] at ht
  have C3 := vC_l (sp_vs n m K x K).1 (vC_r C (nI 13))
  have s0 := m_saysIn hK n m x hK
  generalize sp_vs n m K x K = r0 at k ht C3 s0 ⊢
  refine cl_in ml_Mo_tellsIn rfl rfl ?_
  refine wp_iload_n d_Mo_tellsIn_0 rfl rfl ?_
  refine wp_ifN_ne (pc' := 32) d_Mo_tellsIn_1 (by decide) (by omega) (fun q => absurd q (by decide)) (fun _ => ?_)
  refine wp_aload_n d_Mo_tellsIn_4 rfl rfl ?_
  refine wp_bipush (x := nI 13) d_Mo_tellsIn_5 (by decide) ?_
  refine wp_invV d_Mo_tellsIn_7 ow_Mo_tellsIn lk_8_227 (by decide) mi_Mo_ran rfl rfl (Nat.le_of_ble_eq_true rfl) rfl (wp_isC (O_91 _)) (show h_Mo_ran ≤ _ from by decide) (m_ran C.1 (by omega) _ ?_)
  refine wp_Kv ?_
  refine wp_aload_n d_Mo_tellsIn_10 rfl rfl ?_
  refine wp_aload_n d_Mo_tellsIn_11 rfl rfl ?_
  refine wp_getI d_Mo_tellsIn_12 ow_Mo_tellsIn fl_8_242 (O_91 _) rfl ((vC_r C _).2.1) ?_
  refine wp_iload_n d_Mo_tellsIn_15 rfl rfl ?_
  refine wp_invV d_Mo_tellsIn_16 ow_Mo_tellsIn lk_8_245 (by decide) mi_Mo_saysIn rfl rfl (Nat.le_of_ble_eq_true rfl) rfl (wp_isC (O_91 _)) (show h_Mo_saysIn ≤ _ from by decide) (s0 _ _ _ (vC_r C _) (by omega) ?_)
  refine wp_Ki ?_
  refine wp_iston3 d_Mo_tellsIn_19 rfl ?_
  refine wp_iload_n d_Mo_tellsIn_20 rfl rfl ?_
  refine wp_aload_n d_Mo_tellsIn_21 rfl rfl ?_
  refine wp_aload_n d_Mo_tellsIn_22 rfl rfl ?_
  refine wp_getI d_Mo_tellsIn_23 ow_Mo_tellsIn fl_8_242 (O_91 _) rfl (C3.2.1) ?_
  refine wp_iload_n d_Mo_tellsIn_26 rfl rfl ?_
  refine wp_invV d_Mo_tellsIn_27 ow_Mo_tellsIn lk_8_239 (by decide) mi_Mo_fearsIn rfl rfl (Nat.le_of_ble_eq_true rfl) rfl (wp_isC (O_91 _)) (show h_Mo_fearsIn ≤ _ from by decide) (m_fearsIn K n m x hK _ _ _ C3 (by omega) ?_)
  refine wp_Ki ?_
  refine wp_ixor d_Mo_tellsIn_30 rfl ?_
  refine wp_reti d_Mo_tellsIn_31 rt_Mo_tellsIn ?_
  exact k
theorem m_tup {d K k k' : Nat} {n m x : Int32} {r : List Int32 × Int32} (hd : 2 ≤ d) (hk : k < 7 ∧ k ≠ 0 ∧ k ≠ 4 ∧ k ≠ 5) (hu : sp_abv k = nI k') (h : vT d y_Mo_tellsIn K n m k' x r) : vT (d + 1) y_Mo_tellsIn K n m k x r := by
  intro S Q t C ht K
  refine cl_in ml_Mo_tellsIn rfl rfl ?_
  refine wp_iload_n d_Mo_tellsIn_0 rfl rfl ?_
  refine wp_ifN_ne (pc' := 32) d_Mo_tellsIn_1 (by decide) (by omega) (fun h1 => ?_) (fun h1 => absurd h1 (by omega))
  refine wp_iload_n d_Mo_tellsIn_32 rfl rfl ?_
  refine wp_iconst (x := nI 4) d_Mo_tellsIn_33 rfl ?_
  refine wp_icN_ne (pc' := 62) d_Mo_tellsIn_34 (by decide) (by omega) (by omega) (fun h34 => ?_) (fun h34 => absurd h34 (by omega))
  refine wp_iload_n d_Mo_tellsIn_62 rfl rfl ?_
  refine wp_iconst (x := nI 5) d_Mo_tellsIn_63 rfl ?_
  refine wp_icN_ne (pc' := 92) d_Mo_tellsIn_64 (by decide) (by omega) (by omega) (fun h64 => ?_) (fun h64 => absurd h64 (by omega))
  refine wp_aload_n d_Mo_tellsIn_92 rfl rfl ?_
  refine wp_iload_n d_Mo_tellsIn_93 rfl rfl ?_
  refine wp_invS d_Mo_tellsIn_94 ow_Mo_tellsIn lk_8_106 (by decide) mi_Mo_above rfl rfl (Nat.le_of_ble_eq_true rfl) rfl (Nat.le_trans (show h_Mo_above ≤ 2 from by decide) hd) (m_above k (by omega) (lf_i hu ?_))
  refine wp_Ki ?_
  refine wp_iload_n d_Mo_tellsIn_97 rfl rfl ?_
  refine wp_invV d_Mo_tellsIn_98 ow_Mo_tellsIn lk_8_248 (by decide) mi_Mo_tellsIn rfl rfl (Nat.le_of_ble_eq_true rfl) rfl (wp_isC (O_91 _)) (Nat.le_refl _) (h S _ t C ht ?_)
  refine wp_Ki ?_
  refine wp_reti d_Mo_tellsIn_101 rt_Mo_tellsIn ?_
  exact K
theorem m_t4 {K : Nat} (hK : K < 7) (n m x : Int32) : vT 33 y_Mo_tellsIn K n m 4 x (nI 50 :: ((sp_vt0 n m K x).1 ++ (sp_vh n (nI 2) K).1), (sp_vt0 n m K x).2 - (sp_vh n (nI 2) K).2) := by
  intro S Q t C ht k
  have ht : t + (((sp_vt0 n m K x).1 ++ (sp_vh n (nI 2) K).1).length + 1) ≤ 40 := ht
  have k : Q (some (.int ((sp_vt0 n m K x).2 - (sp_vh n (nI 2) K).2))) (vl (vr S t (nI 50)) (t + 1) ((sp_vt0 n m K x).1 ++ (sp_vh n (nI 2) K).1)) := k
  rw [vl_app] at k
  rw [List.length_append] at ht
  have C3 := vC_l (sp_vt0 n m K x).1 (vC_r C (nI 50))
  have s0 := m_tup (d := 31) (k := 1) (k' := 0) (by decide) (by decide) rfl (m_t0 hK n m x)
  generalize sp_vt0 n m K x = r0 at k ht C3 s0 ⊢
  refine cl_in ml_Mo_tellsIn rfl rfl ?_
  refine wp_iload_n d_Mo_tellsIn_0 rfl rfl ?_
  refine wp_ifN_ne (pc' := 32) d_Mo_tellsIn_1 (by decide) (by omega) (fun _ => ?_) (fun q => absurd q (by decide))
  refine wp_iload_n d_Mo_tellsIn_32 rfl rfl ?_
  refine wp_iconst (x := nI 4) d_Mo_tellsIn_33 rfl ?_
  refine wp_icN_ne (pc' := 62) d_Mo_tellsIn_34 (by decide) (by omega) (by omega) (fun q => absurd q (by decide)) (fun _ => ?_)
  refine wp_aload_n d_Mo_tellsIn_37 rfl rfl ?_
  refine wp_bipush (x := nI 50) d_Mo_tellsIn_38 (by decide) ?_
  refine wp_invV d_Mo_tellsIn_40 ow_Mo_tellsIn lk_8_227 (by decide) mi_Mo_ran rfl rfl (Nat.le_of_ble_eq_true rfl) rfl (wp_isC (O_91 _)) (show h_Mo_ran ≤ _ from by decide) (m_ran C.1 (by omega) _ ?_)
  refine wp_Kv ?_
  refine wp_aload_n d_Mo_tellsIn_43 rfl rfl ?_
  refine wp_iconst (x := nI 1) d_Mo_tellsIn_44 rfl ?_
  refine wp_iload_n d_Mo_tellsIn_45 rfl rfl ?_
  refine wp_invV d_Mo_tellsIn_46 ow_Mo_tellsIn lk_8_248 (by decide) mi_Mo_tellsIn rfl rfl (Nat.le_of_ble_eq_true rfl) rfl (wp_isC (O_91 _)) (Nat.le_refl _) (s0 _ _ _ (vC_r C _) (by omega) ?_)
  refine wp_Ki ?_
  refine wp_iston3 d_Mo_tellsIn_49 rfl ?_
  refine wp_iload_n d_Mo_tellsIn_50 rfl rfl ?_
  refine wp_aload_n d_Mo_tellsIn_51 rfl rfl ?_
  refine wp_aload_n d_Mo_tellsIn_52 rfl rfl ?_
  refine wp_getI d_Mo_tellsIn_53 ow_Mo_tellsIn fl_8_242 (O_91 _) rfl (C3.2.1) ?_
  refine wp_iconst (x := nI 2) d_Mo_tellsIn_56 rfl ?_
  refine wp_invV d_Mo_tellsIn_57 ow_Mo_tellsIn lk_8_233 (by decide) mi_Mo_hearsIn rfl rfl (Nat.le_of_ble_eq_true rfl) rfl (wp_isC (O_91 _)) (show h_Mo_hearsIn ≤ _ from by decide) (m_hearsIn K n m (nI 2) hK _ _ _ C3 (by omega) ?_)
  refine wp_Ki ?_
  refine wp_isub d_Mo_tellsIn_60 rfl ?_
  refine wp_reti d_Mo_tellsIn_61 rt_Mo_tellsIn ?_
  exact k
theorem m_t5 {K : Nat} (hK : K < 7) (n m x : Int32) : vT 33 y_Mo_tellsIn K n m 5 x (nI 61 :: ((sp_vs n m K x K).1 ++ (sp_vt0 n m K x).1), (sp_vs n m K x K).2 - (sp_vt0 n m K x).2) := by
  intro S Q t C ht k
  have ht : t + (((sp_vs n m K x K).1 ++ (sp_vt0 n m K x).1).length + 1) ≤ 40 := ht
  have k : Q (some (.int ((sp_vs n m K x K).2 - (sp_vt0 n m K x).2))) (vl (vr S t (nI 61)) (t + 1) ((sp_vs n m K x K).1 ++ (sp_vt0 n m K x).1)) := k
  rw [vl_app] at k
  rw [List.length_append] at ht
  have C3 := vC_l (sp_vs n m K x K).1 (vC_r C (nI 61))
  have s0 := m_tup (d := 31) (k := 2) (k' := 0) (by decide) (by decide) rfl (m_t0 hK n m x)
  have s1 := m_saysIn hK n m x hK
  generalize sp_vs n m K x K = r1 at k ht C3 s1 ⊢
  generalize sp_vt0 n m K x = r0 at k ht s0 ⊢
  refine cl_in ml_Mo_tellsIn rfl rfl ?_
  refine wp_iload_n d_Mo_tellsIn_0 rfl rfl ?_
  refine wp_ifN_ne (pc' := 32) d_Mo_tellsIn_1 (by decide) (by omega) (fun _ => ?_) (fun q => absurd q (by decide))
  refine wp_iload_n d_Mo_tellsIn_32 rfl rfl ?_
  refine wp_iconst (x := nI 4) d_Mo_tellsIn_33 rfl ?_
  refine wp_icN_ne (pc' := 62) d_Mo_tellsIn_34 (by decide) (by omega) (by omega) (fun _ => ?_) (fun q => absurd q (by decide))
  refine wp_iload_n d_Mo_tellsIn_62 rfl rfl ?_
  refine wp_iconst (x := nI 5) d_Mo_tellsIn_63 rfl ?_
  refine wp_icN_ne (pc' := 92) d_Mo_tellsIn_64 (by decide) (by omega) (by omega) (fun q => absurd q (by decide)) (fun _ => ?_)
  refine wp_aload_n d_Mo_tellsIn_67 rfl rfl ?_
  refine wp_bipush (x := nI 61) d_Mo_tellsIn_68 (by decide) ?_
  refine wp_invV d_Mo_tellsIn_70 ow_Mo_tellsIn lk_8_227 (by decide) mi_Mo_ran rfl rfl (Nat.le_of_ble_eq_true rfl) rfl (wp_isC (O_91 _)) (show h_Mo_ran ≤ _ from by decide) (m_ran C.1 (by omega) _ ?_)
  refine wp_Kv ?_
  refine wp_aload_n d_Mo_tellsIn_73 rfl rfl ?_
  refine wp_aload_n d_Mo_tellsIn_74 rfl rfl ?_
  refine wp_getI d_Mo_tellsIn_75 ow_Mo_tellsIn fl_8_242 (O_91 _) rfl ((vC_r C _).2.1) ?_
  refine wp_iload_n d_Mo_tellsIn_78 rfl rfl ?_
  refine wp_invV d_Mo_tellsIn_79 ow_Mo_tellsIn lk_8_245 (by decide) mi_Mo_saysIn rfl rfl (Nat.le_of_ble_eq_true rfl) rfl (wp_isC (O_91 _)) (show h_Mo_saysIn ≤ _ from by decide) (s1 _ _ _ (vC_r C _) (by omega) ?_)
  refine wp_Ki ?_
  refine wp_iston3 d_Mo_tellsIn_82 rfl ?_
  refine wp_iload_n d_Mo_tellsIn_83 rfl rfl ?_
  refine wp_aload_n d_Mo_tellsIn_84 rfl rfl ?_
  refine wp_iconst (x := nI 2) d_Mo_tellsIn_85 rfl ?_
  refine wp_iload_n d_Mo_tellsIn_86 rfl rfl ?_
  refine wp_invV d_Mo_tellsIn_87 ow_Mo_tellsIn lk_8_248 (by decide) mi_Mo_tellsIn rfl rfl (Nat.le_of_ble_eq_true rfl) rfl (wp_isC (O_91 _)) (Nat.le_refl _) (s0 _ _ _ C3 (by omega) ?_)
  refine wp_Ki ?_
  refine wp_isub d_Mo_tellsIn_90 rfl ?_
  refine wp_reti d_Mo_tellsIn_91 rt_Mo_tellsIn ?_
  exact k
theorem m_tellsIn {K : Nat} (hK : K < 7) (n m x : Int32) {k : Nat} (hk : k < 7) : vT h_Mo_tellsIn y_Mo_tellsIn K n m k x (sp_vt n m K x k) := by
  have s0 := m_t0 hK n m x
  rcases (show k = 0 ∨ k = 1 ∨ k = 2 ∨ k = 3 ∨ k = 4 ∨ k = 5 ∨ k = 6 by omega) with rfl | rfl | rfl | rfl | rfl | rfl | rfl
  · exact vT_up (by decide) rfl s0
  · exact vT_up (by decide) rfl (m_tup (d := 31) (k' := 0) (by decide) (by decide) rfl s0)
  · exact vT_up (by decide) rfl (m_tup (d := 31) (k' := 0) (by decide) (by decide) rfl s0)
  · exact vT_up (by decide) rfl (m_tup (d := 31) (k' := 0) (by decide) (by decide) rfl s0)
  · exact vT_up (by decide) rfl (m_t4 hK n m x)
  · exact vT_up (by decide) rfl (m_t5 hK n m x)
  · exact vT_up (by decide) rfl (m_tup (d := 32) (k' := 3) (by decide) (by decide) rfl (m_tup (d := 31) (k' := 0) (by decide) (by decide) rfl s0))
end VO
