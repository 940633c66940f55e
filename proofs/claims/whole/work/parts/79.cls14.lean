/-! the class: voices -/
def sp_bd (k a : Nat) : Nat := (([[10, 11, 12, 13], [20, 0, 0, 0], [0, 0, 30, 0], [0, 40, 0, 0], [0, 0, 0, 50], [0, 0, 60, 61], [0, 70, 0, 0]] : List (List Nat)).getD k []).getD a 0
theorem sp_bd_le {k a : Nat} (hk : k < 7) (ha : a < 4) : sp_bd k a ≤ 70 := by
  have h : ∀ k : Fin 7, ∀ a : Fin 4, sp_bd k.val a.val ≤ 70 := by decide
  exact h ⟨k, hk⟩ ⟨a, ha⟩
theorem bd_e {k a : Nat} (hk : k < 7) (ha : a < 4) : ab_BO.getD (4 * k + a) 0 = nI (sp_bd k a) := by
  have h : ∀ k : Fin 7, ∀ a : Fin 4, ab_BO.getD (4 * k.val + a.val) 0 = nI (sp_bd k.val a.val) := by decide +kernel
  exact h ⟨k, hk⟩ ⟨a, ha⟩
theorem ka_e {k : Nat} (hk : k < 7) : ab_KA.getD k 0 = sp_abv k := by
  have h : ∀ k : Fin 7, ab_KA.getD k.val 0 = sp_abv k.val := by decide +kernel
  exact h ⟨k, hk⟩
def cvr (S : wp_S) (t : Nat) (b : Int32) : wp_S := wp_u (wp_u S 80 t b) 79 1 (nI (t + 1))
def cvl : wp_S → Nat → List Int32 → wp_S
  | S, _, [] => S
  | S, t, b :: l => cvl (cvr S t b) (t + 1) l
theorem cvl_app : ∀ (l m : List Int32) (S : wp_S) (t : Nat), cvl S t (l ++ m) = cvl (cvl S t l) (t + l.length) m
  | [], m, S, t => rfl
  | b :: l, m, S, t => by
    show cvl (cvr S t b) (t + 1) (l ++ m) = cvl (cvl (cvr S t b) (t + 1) l) (t + (l.length + 1)) m
    rw [cvl_app l m, show t + (l.length + 1) = t + 1 + l.length by omega]
def cV (S : wp_S) (K : Nat) (n m : Int32) (t : Nat) : Prop := S.2 79 1 = nI t ∧ S.2 79 2 = nI K ∧ S.2 79 3 = m ∧ S.2 79 4 = n
theorem cV_r {S : wp_S} {K : Nat} {n m : Int32} {t : Nat} (C : cV S K n m t) (b : Int32) : cV (cvr S t b) K n m (t + 1) := ⟨wp_us, (wp_un (by omega)).trans ((wp_un (by omega)).trans C.2.1), (wp_un (by omega)).trans ((wp_un (by omega)).trans C.2.2.1), (wp_un (by omega)).trans ((wp_un (by omega)).trans C.2.2.2)⟩
theorem cV_l {K : Nat} {n m : Int32} : ∀ (l : List Int32) {S : wp_S} {t : Nat}, cV S K n m t → cV (cvl S t l) K n m (t + l.length)
  | [], _, _, C => C
  | b :: l, S, t, C => by
    have := cV_l l (cV_r C b)
    rw [show t + (b :: l).length = t + 1 + l.length by rw [List.length_cons]; omega]
    exact this
section CR
variable {S : wp_S} {q : sp_R} {mu : Int32} {Q : Option Value → wp_S → Prop}
theorem c_vbegin {t : Nat} (h : S.2 79 1 = nI t) (ht : t < 40) (b : Int32) (K : Q none (cvr S t b)) : cl h_Vo_begin y_Vo_begin [.ref 79, .int b] S Q := by
  refine cl_in ml_Vo_begin rfl rfl ?_
  refine wp_aload_n d_Vo_begin_0 rfl rfl ?_
  refine wp_getI d_Vo_begin_1 ow_Vo_begin fl_6_15 (O_79 _) rfl (h) ?_
  refine wp_bipush (x := nI 40) d_Vo_begin_4 (by decide) ?_
  refine wp_icN_ge (pc' := 29) d_Vo_begin_6 (by decide) (by omega) (by omega) (fun h6 => absurd h6 (by omega)) (fun h6 => ?_)
  refine wp_aload_n d_Vo_begin_9 rfl rfl ?_
  refine wp_getR d_Vo_begin_10 ow_Vo_begin fl_6_11 (O_79 _) rfl ?_
  refine wp_aload_n d_Vo_begin_13 rfl rfl ?_
  refine wp_getI d_Vo_begin_14 ow_Vo_begin fl_6_15 (O_79 _) rfl (h) ?_
  refine wp_iload_n d_Vo_begin_17 rfl rfl ?_
  refine wp_iastore d_Vo_begin_18 (A_80 _) (by omega) (by decide) ?_
  refine wp_aload_n d_Vo_begin_19 rfl rfl ?_
  refine wp_dup d_Vo_begin_20 rfl ?_
  refine wp_getI d_Vo_begin_21 ow_Vo_begin fl_6_15 (O_79 _) rfl ((wp_un (a := 79) (b := 1) (k := 80) (by omega)).trans h) ?_
  refine wp_iconst (x := nI 1) d_Vo_begin_24 rfl ?_
  refine wp_iadd d_Vo_begin_25 (nI_add _ _) ?_
  refine wp_put (ty := .int) d_Vo_begin_26 ow_Vo_begin fl_6_15 (by decide +kernel) (by decide +kernel) (O_79 _) rfl ⟨rfl, rfl⟩ ?_
  refine wp_return d_Vo_begin_29 rt_Vo_begin ?_
  exact K
/-- what a voice's body does -/
def cT (d K : Nat) (n m : Int32) (k a : Nat) (x : Int32) (e : Nat) (r : List Int32 × Int32) : Prop := ∀ (S : wp_S) (Q : Option Value → wp_S → Prop) (t : Nat), cV S K n m t → t + r.1.length ≤ 40 → Q (some (.int r.2)) (cvl S t r.1) → cl d y_Vo_body [.ref 79, .int (nI k), .int (nI a), .int x, .int (nI e)] S Q
/-- .. from where its kind is found -/
def cW73 (d K : Nat) (n m : Int32) (k a : Nat) (x : Int32) (e : Nat) (r : List Int32 × Int32) : Prop := ∀ (S : wp_S) (Q : Option Value → wp_S → Prop) (t : Nat) (y6 : Nat) (y1 : Int32), cV S K n m t → t + r.1.length ≤ 40 → Q (some (.int r.2)) (cvl S t r.1) → wp d y_Vo_body 73 [some (.ref 79), some (.int y1), some (.int (nI a)), some (.int x), some (.int (nI e)), some (.int (nI k)), some (.int (nI y6)), none, none, none] [] S Q
/-- .. from the seeking of its kind -/
def cU (d K : Nat) (n m : Int32) (k a : Nat) (x : Int32) (e : Nat) (r : List Int32 × Int32) (u : Nat) : Prop := ∀ (S : wp_S) (Q : Option Value → wp_S → Prop) (t : Nat) (y1 : Int32), cV S K n m t → t + r.1.length ≤ 40 → Q (some (.int r.2)) (cvl S t r.1) → wp d y_Vo_body 34 [some (.ref 79), some (.int y1), some (.int (nI a)), some (.int x), some (.int (nI e)), some (.int (nI k)), some (.int (nI u)), none, none, none] [] S Q
theorem cT_up {d d' K k a e : Nat} {n m x : Int32} {r r' : List Int32 × Int32} (hd : d ≤ d') (hr : r = r') (h : cT d K n m k a x e r) : cT d' K n m k a x e r' := by
  subst hr
  exact fun S Q t C ht K => cl_mono hd (h S Q t C ht K)
theorem c_U0 {d K k a e u : Nat} {n m x : Int32} {r : List Int32 × Int32} (hk : k < 7) (ha : a < 4) (hu : u < 7) (h0 : k = 0 ∨ sp_bd k a ≠ 0) (h : cW73 d K n m k a x e r) : cU d K n m k a x e r u := by
  intro S Q t y1 C ht Kk
  have hb := sp_bd_le hk ha
  refine wp_iload d_Vo_body_34 rfl ?_
  refine wp_bipush (x := nI 7) d_Vo_body_36 (by decide) ?_
  refine wp_icN_ge (pc' := 73) d_Vo_body_38 (by decide) (by omega) (by omega) (fun h38 => absurd h38 (by omega)) (fun h38 => ?_)
  refine wp_iload d_Vo_body_41 rfl ?_
  refine wp_ifN_le (pc' := 73) d_Vo_body_43 (by decide) (by omega) (fun h43 => ?_) (fun h43 => ?_)
  · exact h S Q t _ _ C ht Kk
  · refine wp_getstatic d_Vo_body_46 ow_Vo_body gs_6_43 ?_
    refine wp_iconst (x := nI 4) d_Vo_body_49 rfl ?_
    refine wp_iload d_Vo_body_50 rfl ?_
    refine wp_imul d_Vo_body_52 (pk_mul _ _) ?_
    refine wp_iload_n d_Vo_body_53 rfl rfl ?_
    refine wp_iadd d_Vo_body_54 (nI_add _ _) ?_
    refine wp_ialoadC d_Vo_body_55 rfl (by omega) (by decide) (bd_e hk ha) ?_
    refine wp_ifN_ne (pc' := 73) d_Vo_body_56 (by decide) (by omega) (fun h56 => ?_) (fun h56 => ?_)
    · exact h S Q t _ _ C ht Kk
    · refine wp_getstatic d_Vo_body_59 ow_Vo_body gs_6_46 ?_
      refine wp_iload d_Vo_body_62 rfl ?_
      refine wp_ialoadC d_Vo_body_64 rfl (by omega) (by decide) (rfl) ?_
      refine wp_isto5 d_Vo_body_65 rfl ?_
      refine wp_iinc6 d_Vo_body_67 rfl (nI_add _ 1) ?_
      refine wp_goto (pc' := 34) d_Vo_body_70 (by decide) ?_
      omega
theorem c_U1 {d K k k' a e u : Nat} {n m x : Int32} {r : List Int32 × Int32} (hk : k < 7) (ha : a < 4) (hu : u < 7) (h0 : k ≠ 0 ∧ sp_bd k a = 0) (hv : sp_abv k = nI k') (h : cU d K n m k' a x e r (u + 1)) : cU d K n m k a x e r u := by
  intro S Q t y1 C ht Kk
  have hb := sp_bd_le hk ha
  refine wp_iload d_Vo_body_34 rfl ?_
  refine wp_bipush (x := nI 7) d_Vo_body_36 (by decide) ?_
  refine wp_icN_ge (pc' := 73) d_Vo_body_38 (by decide) (by omega) (by omega) (fun h38 => absurd h38 (by omega)) (fun h38 => ?_)
  refine wp_iload d_Vo_body_41 rfl ?_
  refine wp_ifN_le (pc' := 73) d_Vo_body_43 (by decide) (by omega) (fun h43 => absurd h43 (by omega)) (fun h43 => ?_)
  refine wp_getstatic d_Vo_body_46 ow_Vo_body gs_6_43 ?_
  refine wp_iconst (x := nI 4) d_Vo_body_49 rfl ?_
  refine wp_iload d_Vo_body_50 rfl ?_
  refine wp_imul d_Vo_body_52 (pk_mul _ _) ?_
  refine wp_iload_n d_Vo_body_53 rfl rfl ?_
  refine wp_iadd d_Vo_body_54 (nI_add _ _) ?_
  refine wp_ialoadC d_Vo_body_55 rfl (by omega) (by decide) (bd_e hk ha) ?_
  refine wp_ifN_ne (pc' := 73) d_Vo_body_56 (by decide) (by omega) (fun h56 => absurd h0.2 h56) (fun h56 => ?_)
  refine wp_getstatic d_Vo_body_59 ow_Vo_body gs_6_46 ?_
  refine wp_iload d_Vo_body_62 rfl ?_
  refine wp_ialoadC d_Vo_body_64 rfl (by omega) (by decide) ((ka_e hk).trans hv) ?_
  refine wp_isto5 d_Vo_body_65 rfl ?_
  refine wp_iinc6 d_Vo_body_67 rfl (nI_add _ 1) ?_
  refine wp_goto (pc' := 34) d_Vo_body_70 (by decide) ?_
  exact h S Q t _ C ht Kk
theorem c_T0 {d K k a e : Nat} {n m x : Int32} {r : List Int32 × Int32} (hd : 1 ≤ d) (hk : k < 7) (ha : a < 4) (he : e ≤ 20) (h : cU d K n m k a x e r 0) : cT (d + 1) K n m k a x e r := by
  intro S Q t C ht Kk
  refine cl_in ml_Vo_body rfl rfl ?_
  refine wp_iload_n d_Vo_body_0 rfl rfl ?_
  refine wp_iconst (x := nI 0) d_Vo_body_1 rfl ?_
  refine wp_bipush (x := nI 6) d_Vo_body_2 (by decide) ?_
  refine wp_invS d_Vo_body_4 ow_Vo_body lk_6_39 (by decide) mi_Fo_isWithin rfl rfl (Nat.le_of_ble_eq_true rfl) rfl (Nat.le_trans (show h_Fo_isWithin ≤ 1 from by decide) hd) (c_isWithin _ _ _ ?_)
  refine wp_Ki ?_
  refine wp_ifB_eq (pc' := 26) d_Vo_body_7 (by decide) (fun h7 => absurd ⟨nI_pos' (by omega), (nI_leI (by omega) (by decide)).mpr (by omega)⟩ h7) (fun h7 => ?_)
  refine wp_iload_n d_Vo_body_10 rfl rfl ?_
  refine wp_iconst (x := nI 0) d_Vo_body_11 rfl ?_
  refine wp_iconst (x := nI 3) d_Vo_body_12 rfl ?_
  refine wp_invS d_Vo_body_13 ow_Vo_body lk_6_39 (by decide) mi_Fo_isWithin rfl rfl (Nat.le_of_ble_eq_true rfl) rfl (Nat.le_trans (show h_Fo_isWithin ≤ 1 from by decide) hd) (c_isWithin _ _ _ ?_)
  refine wp_Ki ?_
  refine wp_ifB_eq (pc' := 26) d_Vo_body_16 (by decide) (fun h16 => absurd ⟨nI_pos' (by omega), (nI_leI (by omega) (by decide)).mpr (by omega)⟩ h16) (fun h16 => ?_)
  refine wp_iload d_Vo_body_19 rfl ?_
  refine wp_bipush (x := nI 20) d_Vo_body_21 (by decide) ?_
  refine wp_icN_le (pc' := 28) d_Vo_body_23 (by decide) (by omega) (by omega) (fun h23 => ?_) (fun h23 => absurd h23 (by omega))
  refine wp_iload_n d_Vo_body_28 rfl rfl ?_
  refine wp_isto5 d_Vo_body_29 rfl ?_
  refine wp_iconst (x := nI 0) d_Vo_body_31 rfl ?_
  refine wp_isto6 d_Vo_body_32 rfl ?_
  exact h S Q t _ C ht Kk
theorem c_W10 (K : Nat) (n m x : Int32) (e : Nat) : cW73 1 K n m 0 0 x e ([nI 10], x + n) := by
  intro S Q t y6 y1 C ht Kk
  have ht : t + 1 ≤ 40 := ht
  refine wp_getstatic d_Vo_body_73 ow_Vo_body gs_6_43 ?_
  refine wp_iconst (x := nI 4) d_Vo_body_76 rfl ?_
  refine wp_iload d_Vo_body_77 rfl ?_
  refine wp_imul d_Vo_body_79 (pk_mul _ _) ?_
  refine wp_iload_n d_Vo_body_80 rfl rfl ?_
  refine wp_iadd d_Vo_body_81 (nI_add _ _) ?_
  refine wp_ialoadC d_Vo_body_82 rfl (by omega) (by decide) ((rfl : _ = nI 10)) ?_
  refine wp_isto6 d_Vo_body_83 rfl ?_
  refine wp_aload_n d_Vo_body_85 rfl rfl ?_
  refine wp_iload d_Vo_body_86 rfl ?_
  refine wp_invV d_Vo_body_88 ow_Vo_body lk_6_49 (by decide) mi_Vo_begin rfl rfl (Nat.le_of_ble_eq_true rfl) rfl (wp_isC (O_79 _)) (show h_Vo_begin ≤ _ from by decide) (c_vbegin C.1 (by omega) _ ?_)
  refine wp_Kv ?_
  refine wp_getstatic d_Vo_body_91 ow_Vo_body gs_6_46 ?_
  refine wp_iload d_Vo_body_94 rfl ?_
  refine wp_ialoadC d_Vo_body_96 rfl (by omega) (by decide) (ka_e (k := 0) (by decide)) ?_
  refine wp_isto7 d_Vo_body_97 rfl ?_
  refine wp_aload_n d_Vo_body_99 rfl rfl ?_
  refine wp_getI d_Vo_body_100 ow_Vo_body fl_6_19 (O_79 _) rfl ((cV_r C _).2.1) ?_
  refine wp_isto8 d_Vo_body_103 rfl ?_
  refine wp_iload d_Vo_body_105 rfl ?_
  refine wp_iconst (x := nI 1) d_Vo_body_107 rfl ?_
  refine wp_iadd d_Vo_body_108 (nI_add _ _) ?_
  refine wp_isto9 d_Vo_body_109 rfl ?_
  refine wp_iload d_Vo_body_111 rfl ?_
  refine wp_ls (pc' := 212) d_Vo_body_113 (by decide) rfl (by decide) ?_
  refine wp_iload_n d_Vo_body_212 rfl rfl ?_
  refine wp_aload_n d_Vo_body_213 rfl rfl ?_
  refine wp_getI d_Vo_body_214 ow_Vo_body fl_6_25 (O_79 _) rfl ((cV_r C _).2.2.2) ?_
  refine wp_iadd d_Vo_body_217 rfl ?_
  refine wp_reti d_Vo_body_218 rt_Vo_body ?_
  exact Kk
theorem c_W12 (K : Nat) (n m x : Int32) (e : Nat) : cW73 1 K n m 0 2 x e ([nI 12], x - m) := by
  intro S Q t y6 y1 C ht Kk
  have ht : t + 1 ≤ 40 := ht
  refine wp_getstatic d_Vo_body_73 ow_Vo_body gs_6_43 ?_
  refine wp_iconst (x := nI 4) d_Vo_body_76 rfl ?_
  refine wp_iload d_Vo_body_77 rfl ?_
  refine wp_imul d_Vo_body_79 (pk_mul _ _) ?_
  refine wp_iload_n d_Vo_body_80 rfl rfl ?_
  refine wp_iadd d_Vo_body_81 (nI_add _ _) ?_
  refine wp_ialoadC d_Vo_body_82 rfl (by omega) (by decide) ((rfl : _ = nI 12)) ?_
  refine wp_isto6 d_Vo_body_83 rfl ?_
  refine wp_aload_n d_Vo_body_85 rfl rfl ?_
  refine wp_iload d_Vo_body_86 rfl ?_
  refine wp_invV d_Vo_body_88 ow_Vo_body lk_6_49 (by decide) mi_Vo_begin rfl rfl (Nat.le_of_ble_eq_true rfl) rfl (wp_isC (O_79 _)) (show h_Vo_begin ≤ _ from by decide) (c_vbegin C.1 (by omega) _ ?_)
  refine wp_Kv ?_
  refine wp_getstatic d_Vo_body_91 ow_Vo_body gs_6_46 ?_
  refine wp_iload d_Vo_body_94 rfl ?_
  refine wp_ialoadC d_Vo_body_96 rfl (by omega) (by decide) (ka_e (k := 0) (by decide)) ?_
  refine wp_isto7 d_Vo_body_97 rfl ?_
  refine wp_aload_n d_Vo_body_99 rfl rfl ?_
  refine wp_getI d_Vo_body_100 ow_Vo_body fl_6_19 (O_79 _) rfl ((cV_r C _).2.1) ?_
  refine wp_isto8 d_Vo_body_103 rfl ?_
  refine wp_iload d_Vo_body_105 rfl ?_
  refine wp_iconst (x := nI 1) d_Vo_body_107 rfl ?_
  refine wp_iadd d_Vo_body_108 (nI_add _ _) ?_
  refine wp_isto9 d_Vo_body_109 rfl ?_
  refine wp_iload d_Vo_body_111 rfl ?_
  refine wp_ls (pc' := 232) d_Vo_body_113 (by decide) rfl (by decide) ?_
  refine wp_iload_n d_Vo_body_232 rfl rfl ?_
  refine wp_aload_n d_Vo_body_233 rfl rfl ?_
  refine wp_getI d_Vo_body_234 ow_Vo_body fl_6_22 (O_79 _) rfl ((cV_r C _).2.2.1) ?_
  refine wp_isub d_Vo_body_237 rfl ?_
  refine wp_reti d_Vo_body_238 rt_Vo_body ?_
  exact Kk
theorem c_h0 (K : Nat) (n m x : Int32) (e : Nat) (he : e ≤ 20) : cT 2 K n m 0 0 x e ([nI 10], x + n) := (c_T0 (by decide) (by decide) (by decide) (by omega) (c_U0 (by decide) (by decide) (by decide) (by decide) (c_W10 K n m x e)))
theorem c_W20 (K : Nat) (n m x : Int32) (e : Nat) (he : e + 1 ≤ 20) : cW73 2 K n m 1 0 x e ([nI 20, nI 10], (x + n) * nI 3) := by
  intro S Q t y6 y1 C ht Kk
  have ht : t + 2 ≤ 40 := ht
  refine wp_getstatic d_Vo_body_73 ow_Vo_body gs_6_43 ?_
  refine wp_iconst (x := nI 4) d_Vo_body_76 rfl ?_
  refine wp_iload d_Vo_body_77 rfl ?_
  refine wp_imul d_Vo_body_79 (pk_mul _ _) ?_
  refine wp_iload_n d_Vo_body_80 rfl rfl ?_
  refine wp_iadd d_Vo_body_81 (nI_add _ _) ?_
  refine wp_ialoadC d_Vo_body_82 rfl (by omega) (by decide) ((rfl : _ = nI 20)) ?_
  refine wp_isto6 d_Vo_body_83 rfl ?_
  refine wp_aload_n d_Vo_body_85 rfl rfl ?_
  refine wp_iload d_Vo_body_86 rfl ?_
  refine wp_invV d_Vo_body_88 ow_Vo_body lk_6_49 (by decide) mi_Vo_begin rfl rfl (Nat.le_of_ble_eq_true rfl) rfl (wp_isC (O_79 _)) (show h_Vo_begin ≤ _ from by decide) (c_vbegin C.1 (by omega) _ ?_)
  refine wp_Kv ?_
  refine wp_getstatic d_Vo_body_91 ow_Vo_body gs_6_46 ?_
  refine wp_iload d_Vo_body_94 rfl ?_
  refine wp_ialoadC d_Vo_body_96 rfl (by omega) (by decide) ((rfl : _ = nI 0)) ?_
  refine wp_isto7 d_Vo_body_97 rfl ?_
  refine wp_aload_n d_Vo_body_99 rfl rfl ?_
  refine wp_getI d_Vo_body_100 ow_Vo_body fl_6_19 (O_79 _) rfl ((cV_r C _).2.1) ?_
  refine wp_isto8 d_Vo_body_103 rfl ?_
  refine wp_iload d_Vo_body_105 rfl ?_
  refine wp_iconst (x := nI 1) d_Vo_body_107 rfl ?_
  refine wp_iadd d_Vo_body_108 (nI_add _ _) ?_
  refine wp_isto9 d_Vo_body_109 rfl ?_
  refine wp_iload d_Vo_body_111 rfl ?_
  refine wp_ls (pc' := 261) d_Vo_body_113 (by decide) rfl (by decide) ?_
  refine wp_aload_n d_Vo_body_261 rfl rfl ?_
  refine wp_iload d_Vo_body_262 rfl ?_
  refine wp_iconst (x := nI 0) d_Vo_body_264 rfl ?_
  refine wp_iload_n d_Vo_body_265 rfl rfl ?_
  refine wp_iload d_Vo_body_266 rfl ?_
  refine wp_invS d_Vo_body_268 ow_Vo_body lk_6_35 (by decide) mi_Vo_body rfl rfl (Nat.le_of_ble_eq_true rfl) rfl (Nat.le_refl _) (c_h0 K n m x (e + 1) he _ _ _ (cV_r C _) (by show t + 1 + 1 ≤ 40; omega) ?_)
  refine wp_Ki ?_
  refine wp_iconst (x := nI 3) d_Vo_body_271 rfl ?_
  refine wp_imul d_Vo_body_272 rfl ?_
  refine wp_reti d_Vo_body_273 rt_Vo_body ?_
  exact Kk
theorem c_hearsB (K : Nat) (n m x : Int32) (e : Nat) (he : e + 1 ≤ 20) {k : Nat} (hk : k < 7) : cT 3 K n m k 0 x e (sp_vh n x k) := by
  rcases (show k = 0 ∨ k = 1 ∨ k = 2 ∨ k = 3 ∨ k = 4 ∨ k = 5 ∨ k = 6 by omega) with rfl | rfl | rfl | rfl | rfl | rfl | rfl
  · exact cT_up (by decide) rfl (c_T0 (by decide) (by decide) (by decide) (by omega) (c_U0 (by decide) (by decide) (by decide) (by decide) (c_W10 K n m x e)))
  · exact cT_up (by decide) rfl (c_T0 (by decide) (by decide) (by decide) (by omega) (c_U0 (by decide) (by decide) (by decide) (by decide) (c_W20 K n m x e he)))
  · exact cT_up (by decide) rfl (c_T0 (by decide) (by decide) (by decide) (by omega) (c_U1 (k' := 0) (by decide) (by decide) (by decide) (by decide) rfl (c_U0 (by decide) (by decide) (by decide) (by decide) (c_W10 K n m x e))))
  · exact cT_up (by decide) rfl (c_T0 (by decide) (by decide) (by decide) (by omega) (c_U1 (k' := 0) (by decide) (by decide) (by decide) (by decide) rfl (c_U0 (by decide) (by decide) (by decide) (by decide) (c_W10 K n m x e))))
  · exact cT_up (by decide) rfl (c_T0 (by decide) (by decide) (by decide) (by omega) (c_U1 (k' := 1) (by decide) (by decide) (by decide) (by decide) rfl (c_U0 (by decide) (by decide) (by decide) (by decide) (c_W20 K n m x e he))))
  · exact cT_up (by decide) rfl (c_T0 (by decide) (by decide) (by decide) (by omega) (c_U1 (k' := 2) (by decide) (by decide) (by decide) (by decide) rfl (c_U1 (k' := 0) (by decide) (by decide) (by decide) (by decide) rfl (c_U0 (by decide) (by decide) (by decide) (by decide) (c_W10 K n m x e)))))
  · exact cT_up (by decide) rfl (c_T0 (by decide) (by decide) (by decide) (by omega) (c_U1 (k' := 3) (by decide) (by decide) (by decide) (by decide) rfl (c_U1 (k' := 0) (by decide) (by decide) (by decide) (by decide) rfl (c_U0 (by decide) (by decide) (by decide) (by decide) (c_W10 K n m x e)))))
theorem c_f0 (K : Nat) (n m x : Int32) (e : Nat) (he : e ≤ 20) : cT 2 K n m 0 2 x e ([nI 12], x - m) := (c_T0 (by decide) (by decide) (by decide) (by omega) (c_U0 (by decide) (by decide) (by decide) (by decide) (c_W12 K n m x e)))
theorem c_W30 (K : Nat) (n m x : Int32) (e : Nat) (he : e + 1 ≤ 20) : cW73 2 K n m 2 2 x e ([nI 30, nI 12], -(x - m)) := by
  intro S Q t y6 y1 C ht Kk
  have ht : t + 2 ≤ 40 := ht
  refine wp_getstatic d_Vo_body_73 ow_Vo_body gs_6_43 ?_
  refine wp_iconst (x := nI 4) d_Vo_body_76 rfl ?_
  refine wp_iload d_Vo_body_77 rfl ?_
  refine wp_imul d_Vo_body_79 (pk_mul _ _) ?_
  refine wp_iload_n d_Vo_body_80 rfl rfl ?_
  refine wp_iadd d_Vo_body_81 (nI_add _ _) ?_
  refine wp_ialoadC d_Vo_body_82 rfl (by omega) (by decide) ((rfl : _ = nI 30)) ?_
  refine wp_isto6 d_Vo_body_83 rfl ?_
  refine wp_aload_n d_Vo_body_85 rfl rfl ?_
  refine wp_iload d_Vo_body_86 rfl ?_
  refine wp_invV d_Vo_body_88 ow_Vo_body lk_6_49 (by decide) mi_Vo_begin rfl rfl (Nat.le_of_ble_eq_true rfl) rfl (wp_isC (O_79 _)) (show h_Vo_begin ≤ _ from by decide) (c_vbegin C.1 (by omega) _ ?_)
  refine wp_Kv ?_
  refine wp_getstatic d_Vo_body_91 ow_Vo_body gs_6_46 ?_
  refine wp_iload d_Vo_body_94 rfl ?_
  refine wp_ialoadC d_Vo_body_96 rfl (by omega) (by decide) ((rfl : _ = nI 0)) ?_
  refine wp_isto7 d_Vo_body_97 rfl ?_
  refine wp_aload_n d_Vo_body_99 rfl rfl ?_
  refine wp_getI d_Vo_body_100 ow_Vo_body fl_6_19 (O_79 _) rfl ((cV_r C _).2.1) ?_
  refine wp_isto8 d_Vo_body_103 rfl ?_
  refine wp_iload d_Vo_body_105 rfl ?_
  refine wp_iconst (x := nI 1) d_Vo_body_107 rfl ?_
  refine wp_iadd d_Vo_body_108 (nI_add _ _) ?_
  refine wp_isto9 d_Vo_body_109 rfl ?_
  refine wp_iload d_Vo_body_111 rfl ?_
  refine wp_ls (pc' := 274) d_Vo_body_113 (by decide) rfl (by decide) ?_
  refine wp_aload_n d_Vo_body_274 rfl rfl ?_
  refine wp_iload d_Vo_body_275 rfl ?_
  refine wp_iconst (x := nI 2) d_Vo_body_277 rfl ?_
  refine wp_iload_n d_Vo_body_278 rfl rfl ?_
  refine wp_iload d_Vo_body_279 rfl ?_
  refine wp_invS d_Vo_body_281 ow_Vo_body lk_6_35 (by decide) mi_Vo_body rfl rfl (Nat.le_of_ble_eq_true rfl) rfl (Nat.le_refl _) (c_f0 K n m x (e + 1) he _ _ _ (cV_r C _) (by show t + 1 + 1 ≤ 40; omega) ?_)
  refine wp_Ki ?_
  refine wp_ineg d_Vo_body_284 (rfl) ?_
  refine wp_reti d_Vo_body_285 rt_Vo_body ?_
  exact Kk
theorem c_f2 (K : Nat) (n m x : Int32) (e : Nat) (he : e + 1 ≤ 20) : cT 3 K n m 2 2 x e ([nI 30, nI 12], -(x - m)) := (c_T0 (by decide) (by decide) (by decide) (by omega) (c_U0 (by decide) (by decide) (by decide) (by decide) (c_W30 K n m x e he)))
theorem c_W60 (K : Nat) (n m x : Int32) (e : Nat) (he : e + 2 ≤ 20) : cW73 3 K n m 5 2 x e ([nI 60, nI 30, nI 12], (-(x - m)) ^^^ n) := by
  intro S Q t y6 y1 C ht Kk
  have ht : t + 3 ≤ 40 := ht
  refine wp_getstatic d_Vo_body_73 ow_Vo_body gs_6_43 ?_
  refine wp_iconst (x := nI 4) d_Vo_body_76 rfl ?_
  refine wp_iload d_Vo_body_77 rfl ?_
  refine wp_imul d_Vo_body_79 (pk_mul _ _) ?_
  refine wp_iload_n d_Vo_body_80 rfl rfl ?_
  refine wp_iadd d_Vo_body_81 (nI_add _ _) ?_
  refine wp_ialoadC d_Vo_body_82 rfl (by omega) (by decide) ((rfl : _ = nI 60)) ?_
  refine wp_isto6 d_Vo_body_83 rfl ?_
  refine wp_aload_n d_Vo_body_85 rfl rfl ?_
  refine wp_iload d_Vo_body_86 rfl ?_
  refine wp_invV d_Vo_body_88 ow_Vo_body lk_6_49 (by decide) mi_Vo_begin rfl rfl (Nat.le_of_ble_eq_true rfl) rfl (wp_isC (O_79 _)) (show h_Vo_begin ≤ _ from by decide) (c_vbegin C.1 (by omega) _ ?_)
  refine wp_Kv ?_
  refine wp_getstatic d_Vo_body_91 ow_Vo_body gs_6_46 ?_
  refine wp_iload d_Vo_body_94 rfl ?_
  refine wp_ialoadC d_Vo_body_96 rfl (by omega) (by decide) ((rfl : _ = nI 2)) ?_
  refine wp_isto7 d_Vo_body_97 rfl ?_
  refine wp_aload_n d_Vo_body_99 rfl rfl ?_
  refine wp_getI d_Vo_body_100 ow_Vo_body fl_6_19 (O_79 _) rfl ((cV_r C _).2.1) ?_
  refine wp_isto8 d_Vo_body_103 rfl ?_
  refine wp_iload d_Vo_body_105 rfl ?_
  refine wp_iconst (x := nI 1) d_Vo_body_107 rfl ?_
  refine wp_iadd d_Vo_body_108 (nI_add _ _) ?_
  refine wp_isto9 d_Vo_body_109 rfl ?_
  refine wp_iload d_Vo_body_111 rfl ?_
  refine wp_ls (pc' := 330) d_Vo_body_113 (by decide) rfl (by decide) ?_
  refine wp_aload_n d_Vo_body_330 rfl rfl ?_
  refine wp_iload d_Vo_body_331 rfl ?_
  refine wp_iconst (x := nI 2) d_Vo_body_333 rfl ?_
  refine wp_iload_n d_Vo_body_334 rfl rfl ?_
  refine wp_iload d_Vo_body_335 rfl ?_
  refine wp_invS d_Vo_body_337 ow_Vo_body lk_6_35 (by decide) mi_Vo_body rfl rfl (Nat.le_of_ble_eq_true rfl) rfl (Nat.le_refl _) (c_f2 K n m x (e + 1) he _ _ _ (cV_r C _) (by show t + 1 + 2 ≤ 40; omega) ?_)
  refine wp_Ki ?_
  refine wp_aload_n d_Vo_body_340 rfl rfl ?_
  refine wp_getI d_Vo_body_341 ow_Vo_body fl_6_25 (O_79 _) rfl ((cV_l [nI 60, nI 30, nI 12] C).2.2.2) ?_
  refine wp_ixor d_Vo_body_344 rfl ?_
  refine wp_reti d_Vo_body_345 rt_Vo_body ?_
  exact Kk
theorem c_fearsB (K : Nat) (n m x : Int32) (e : Nat) (he : e + 2 ≤ 20) {k : Nat} (hk : k < 7) : cT 4 K n m k 2 x e (sp_vf n m x k) := by
  rcases (show k = 0 ∨ k = 1 ∨ k = 2 ∨ k = 3 ∨ k = 4 ∨ k = 5 ∨ k = 6 by omega) with rfl | rfl | rfl | rfl | rfl | rfl | rfl
  · exact cT_up (by decide) rfl (c_T0 (by decide) (by decide) (by decide) (by omega) (c_U0 (by decide) (by decide) (by decide) (by decide) (c_W12 K n m x e)))
  · exact cT_up (by decide) rfl (c_T0 (by decide) (by decide) (by decide) (by omega) (c_U1 (k' := 0) (by decide) (by decide) (by decide) (by decide) rfl (c_U0 (by decide) (by decide) (by decide) (by decide) (c_W12 K n m x e))))
  · exact cT_up (by decide) rfl (c_T0 (by decide) (by decide) (by decide) (by omega) (c_U0 (by decide) (by decide) (by decide) (by decide) (c_W30 K n m x e (by omega))))
  · exact cT_up (by decide) rfl (c_T0 (by decide) (by decide) (by decide) (by omega) (c_U1 (k' := 0) (by decide) (by decide) (by decide) (by decide) rfl (c_U0 (by decide) (by decide) (by decide) (by decide) (c_W12 K n m x e))))
  · exact cT_up (by decide) rfl (c_T0 (by decide) (by decide) (by decide) (by omega) (c_U1 (k' := 1) (by decide) (by decide) (by decide) (by decide) rfl (c_U1 (k' := 0) (by decide) (by decide) (by decide) (by decide) rfl (c_U0 (by decide) (by decide) (by decide) (by decide) (c_W12 K n m x e)))))
  · exact cT_up (by decide) rfl (c_T0 (by decide) (by decide) (by decide) (by omega) (c_U0 (by decide) (by decide) (by decide) (by decide) (c_W60 K n m x e he)))
  · exact cT_up (by decide) rfl (c_T0 (by decide) (by decide) (by decide) (by omega) (c_U1 (k' := 3) (by decide) (by decide) (by decide) (by decide) rfl (c_U1 (k' := 0) (by decide) (by decide) (by decide) (by decide) rfl (c_U0 (by decide) (by decide) (by decide) (by decide) (c_W12 K n m x e)))))
theorem c_W11 {K : Nat} (hK : K < 7) (n m x : Int32) (e : Nat) (he : e + 2 ≤ 20) : cW73 3 K n m 0 1 x e (nI 11 :: (sp_vh n x K).1, (sp_vh n x K).2 * nI 2) := by
  intro S Q t y6 y1 C ht Kk
  have ht : t + ((sp_vh n x K).1.length + 1) ≤ 40 := ht
  refine wp_getstatic d_Vo_body_73 ow_Vo_body gs_6_43 ?_
  refine wp_iconst (x := nI 4) d_Vo_body_76 rfl ?_
  refine wp_iload d_Vo_body_77 rfl ?_
  refine wp_imul d_Vo_body_79 (pk_mul _ _) ?_
  refine wp_iload_n d_Vo_body_80 rfl rfl ?_
  refine wp_iadd d_Vo_body_81 (nI_add _ _) ?_
  refine wp_ialoadC d_Vo_body_82 rfl (by omega) (by decide) ((rfl : _ = nI 11)) ?_
  refine wp_isto6 d_Vo_body_83 rfl ?_
  refine wp_aload_n d_Vo_body_85 rfl rfl ?_
  refine wp_iload d_Vo_body_86 rfl ?_
  refine wp_invV d_Vo_body_88 ow_Vo_body lk_6_49 (by decide) mi_Vo_begin rfl rfl (Nat.le_of_ble_eq_true rfl) rfl (wp_isC (O_79 _)) (show h_Vo_begin ≤ _ from by decide) (c_vbegin C.1 (by omega) _ ?_)
  refine wp_Kv ?_
  refine wp_getstatic d_Vo_body_91 ow_Vo_body gs_6_46 ?_
  refine wp_iload d_Vo_body_94 rfl ?_
  refine wp_ialoadC d_Vo_body_96 rfl (by omega) (by decide) (ka_e (k := 0) (by decide)) ?_
  refine wp_isto7 d_Vo_body_97 rfl ?_
  refine wp_aload_n d_Vo_body_99 rfl rfl ?_
  refine wp_getI d_Vo_body_100 ow_Vo_body fl_6_19 (O_79 _) rfl ((cV_r C _).2.1) ?_
  refine wp_isto8 d_Vo_body_103 rfl ?_
  refine wp_iload d_Vo_body_105 rfl ?_
  refine wp_iconst (x := nI 1) d_Vo_body_107 rfl ?_
  refine wp_iadd d_Vo_body_108 (nI_add _ _) ?_
  refine wp_isto9 d_Vo_body_109 rfl ?_
  refine wp_iload d_Vo_body_111 rfl ?_
  refine wp_ls (pc' := 219) d_Vo_body_113 (by decide) rfl (by decide) ?_
  refine wp_aload_n d_Vo_body_219 rfl rfl ?_
  refine wp_iload d_Vo_body_220 rfl ?_
  refine wp_iconst (x := nI 0) d_Vo_body_222 rfl ?_
  refine wp_iload_n d_Vo_body_223 rfl rfl ?_
  refine wp_iload d_Vo_body_224 rfl ?_
  refine wp_invS d_Vo_body_226 ow_Vo_body lk_6_35 (by decide) mi_Vo_body rfl rfl (Nat.le_of_ble_eq_true rfl) rfl (Nat.le_refl _) (c_hearsB K n m x (e + 1) (by omega) hK _ _ _ (cV_r C _) (by omega) ?_)
  refine wp_Ki ?_
  refine wp_iconst (x := nI 2) d_Vo_body_229 rfl ?_
  refine wp_imul d_Vo_body_230 rfl ?_
  refine wp_reti d_Vo_body_231 rt_Vo_body ?_
  exact Kk
theorem c_s0 {K : Nat} (hK : K < 7) (n m x : Int32) (e : Nat) (he : e + 2 ≤ 20) : cT 4 K n m 0 1 x e (sp_v0 n K x) := (c_T0 (by decide) (by decide) (by decide) (by omega) (c_U0 (by decide) (by decide) (by decide) (by decide) (c_W11 hK n m x e he)))
theorem c_W40 {K : Nat} (hK : K < 7) (n m x : Int32) (e : Nat) (he : e + 3 ≤ 20) : cW73 4 K n m 3 1 x e (nI 40 :: ((sp_v0 n K x).1 ++ (sp_vf n m (nI 1) K).1), (sp_v0 n K x).2 - (sp_vf n m (nI 1) K).2) := by
  intro S Q t y6 y1 C ht Kk
  have hl := sp_v0_le n K x
  have hf := sp_vf_le n m (nI 1) K
  have ht : t + (((sp_v0 n K x).1 ++ (sp_vf n m (nI 1) K).1).length + 1) ≤ 40 := ht
  have Kk : Q (some (.int ((sp_v0 n K x).2 - (sp_vf n m (nI 1) K).2))) (cvl (cvr S t (nI 40)) (t + 1) ((sp_v0 n K x).1 ++ (sp_vf n m (nI 1) K).1)) := Kk
  rw [cvl_app] at Kk
  rw [List.length_append] at ht
  have C3 := cV_l (sp_v0 n K x).1 (cV_r C (nI 40))
  have s0 := c_s0 hK n m x (e + 1) (by omega)
  generalize sp_v0 n K x = r0 at Kk ht C3 s0 hl ⊢
  refine wp_getstatic d_Vo_body_73 ow_Vo_body gs_6_43 ?_
  refine wp_iconst (x := nI 4) d_Vo_body_76 rfl ?_
  refine wp_iload d_Vo_body_77 rfl ?_
  refine wp_imul d_Vo_body_79 (pk_mul _ _) ?_
  refine wp_iload_n d_Vo_body_80 rfl rfl ?_
  refine wp_iadd d_Vo_body_81 (nI_add _ _) ?_
  refine wp_ialoadC d_Vo_body_82 rfl (by omega) (by decide) ((rfl : _ = nI 40)) ?_
  refine wp_isto6 d_Vo_body_83 rfl ?_
  refine wp_aload_n d_Vo_body_85 rfl rfl ?_
  refine wp_iload d_Vo_body_86 rfl ?_
  refine wp_invV d_Vo_body_88 ow_Vo_body lk_6_49 (by decide) mi_Vo_begin rfl rfl (Nat.le_of_ble_eq_true rfl) rfl (wp_isC (O_79 _)) (show h_Vo_begin ≤ _ from by decide) (c_vbegin C.1 (by omega) _ ?_)
  refine wp_Kv ?_
  refine wp_getstatic d_Vo_body_91 ow_Vo_body gs_6_46 ?_
  refine wp_iload d_Vo_body_94 rfl ?_
  refine wp_ialoadC d_Vo_body_96 rfl (by omega) (by decide) ((rfl : _ = nI 0)) ?_
  refine wp_isto7 d_Vo_body_97 rfl ?_
  refine wp_aload_n d_Vo_body_99 rfl rfl ?_
  refine wp_getI d_Vo_body_100 ow_Vo_body fl_6_19 (O_79 _) rfl ((cV_r C _).2.1) ?_
  refine wp_isto8 d_Vo_body_103 rfl ?_
  refine wp_iload d_Vo_body_105 rfl ?_
  refine wp_iconst (x := nI 1) d_Vo_body_107 rfl ?_
  refine wp_iadd d_Vo_body_108 (nI_add _ _) ?_
  refine wp_isto9 d_Vo_body_109 rfl ?_
  refine wp_iload d_Vo_body_111 rfl ?_
  refine wp_ls (pc' := 286) d_Vo_body_113 (by decide) rfl (by decide) ?_
  refine wp_aload_n d_Vo_body_286 rfl rfl ?_
  refine wp_iload d_Vo_body_287 rfl ?_
  refine wp_iconst (x := nI 1) d_Vo_body_289 rfl ?_
  refine wp_iload_n d_Vo_body_290 rfl rfl ?_
  refine wp_iload d_Vo_body_291 rfl ?_
  refine wp_invS d_Vo_body_293 ow_Vo_body lk_6_35 (by decide) mi_Vo_body rfl rfl (Nat.le_of_ble_eq_true rfl) rfl (Nat.le_refl _) (s0 _ _ _ (cV_r C _) (by omega) ?_)
  refine wp_Ki ?_
  refine wp_aload_n d_Vo_body_296 rfl rfl ?_
  refine wp_iload d_Vo_body_297 rfl ?_
  refine wp_iconst (x := nI 2) d_Vo_body_299 rfl ?_
  refine wp_iconst (x := nI 1) d_Vo_body_300 rfl ?_
  refine wp_iload d_Vo_body_301 rfl ?_
  refine wp_invS d_Vo_body_303 ow_Vo_body lk_6_35 (by decide) mi_Vo_body rfl rfl (Nat.le_of_ble_eq_true rfl) rfl (Nat.le_refl _) (c_fearsB K n m (nI 1) (e + 1) (by omega) hK _ _ _ C3 (by omega) ?_)
  refine wp_Ki ?_
  refine wp_isub d_Vo_body_306 rfl ?_
  refine wp_reti d_Vo_body_307 rt_Vo_body ?_
  exact Kk
theorem c_s3 {K : Nat} (hK : K < 7) (n m x : Int32) (e : Nat) (he : e + 3 ≤ 20) : cT 5 K n m 3 1 x e (sp_v3 n m K x) := (c_T0 (by decide) (by decide) (by decide) (by omega) (c_U0 (by decide) (by decide) (by decide) (by decide) (c_W40 hK n m x e he)))
theorem c_W70 {K : Nat} (hK : K < 7) (n m x : Int32) (e : Nat) (he : e + 4 ≤ 20) : cW73 5 K n m 6 1 x e (nI 70 :: (sp_v3 n m K (x + nI 1)).1, (sp_v3 n m K (x + nI 1)).2) := by
  intro S Q t y6 y1 C ht Kk
  have ht : t + ((sp_v3 n m K (x + nI 1)).1.length + 1) ≤ 40 := ht
  refine wp_getstatic d_Vo_body_73 ow_Vo_body gs_6_43 ?_
  refine wp_iconst (x := nI 4) d_Vo_body_76 rfl ?_
  refine wp_iload d_Vo_body_77 rfl ?_
  refine wp_imul d_Vo_body_79 (pk_mul _ _) ?_
  refine wp_iload_n d_Vo_body_80 rfl rfl ?_
  refine wp_iadd d_Vo_body_81 (nI_add _ _) ?_
  refine wp_ialoadC d_Vo_body_82 rfl (by omega) (by decide) ((rfl : _ = nI 70)) ?_
  refine wp_isto6 d_Vo_body_83 rfl ?_
  refine wp_aload_n d_Vo_body_85 rfl rfl ?_
  refine wp_iload d_Vo_body_86 rfl ?_
  refine wp_invV d_Vo_body_88 ow_Vo_body lk_6_49 (by decide) mi_Vo_begin rfl rfl (Nat.le_of_ble_eq_true rfl) rfl (wp_isC (O_79 _)) (show h_Vo_begin ≤ _ from by decide) (c_vbegin C.1 (by omega) _ ?_)
  refine wp_Kv ?_
  refine wp_getstatic d_Vo_body_91 ow_Vo_body gs_6_46 ?_
  refine wp_iload d_Vo_body_94 rfl ?_
  refine wp_ialoadC d_Vo_body_96 rfl (by omega) (by decide) ((rfl : _ = nI 3)) ?_
  refine wp_isto7 d_Vo_body_97 rfl ?_
  refine wp_aload_n d_Vo_body_99 rfl rfl ?_
  refine wp_getI d_Vo_body_100 ow_Vo_body fl_6_19 (O_79 _) rfl ((cV_r C _).2.1) ?_
  refine wp_isto8 d_Vo_body_103 rfl ?_
  refine wp_iload d_Vo_body_105 rfl ?_
  refine wp_iconst (x := nI 1) d_Vo_body_107 rfl ?_
  refine wp_iadd d_Vo_body_108 (nI_add _ _) ?_
  refine wp_isto9 d_Vo_body_109 rfl ?_
  refine wp_iload d_Vo_body_111 rfl ?_
  refine wp_ls (pc' := 368) d_Vo_body_113 (by decide) rfl (by decide) ?_
  refine wp_aload_n d_Vo_body_368 rfl rfl ?_
  refine wp_iload d_Vo_body_369 rfl ?_
  refine wp_iconst (x := nI 1) d_Vo_body_371 rfl ?_
  refine wp_iload_n d_Vo_body_372 rfl rfl ?_
  refine wp_iconst (x := nI 1) d_Vo_body_373 rfl ?_
  refine wp_iadd d_Vo_body_374 rfl ?_
  refine wp_iload d_Vo_body_375 rfl ?_
  refine wp_invS d_Vo_body_377 ow_Vo_body lk_6_35 (by decide) mi_Vo_body rfl rfl (Nat.le_of_ble_eq_true rfl) rfl (Nat.le_refl _) (c_s3 hK n m (x + nI 1) (e + 1) (by omega) _ _ _ (cV_r C _) (by omega) ?_)
  refine wp_Ki ?_
  refine wp_reti d_Vo_body_380 rt_Vo_body ?_
  exact Kk
theorem c_saysB {K : Nat} (hK : K < 7) (n m x : Int32) (e : Nat) (he : e + 4 ≤ 20) {k : Nat} (hk : k < 7) : cT 6 K n m k 1 x e (sp_vs n m K x k) := by
  rcases (show k = 0 ∨ k = 1 ∨ k = 2 ∨ k = 3 ∨ k = 4 ∨ k = 5 ∨ k = 6 by omega) with rfl | rfl | rfl | rfl | rfl | rfl | rfl
  · exact cT_up (by decide) rfl (c_T0 (by decide) (by decide) (by decide) (by omega) (c_U0 (by decide) (by decide) (by decide) (by decide) (c_W11 hK n m x e (by omega))))
  · exact cT_up (by decide) rfl (c_T0 (by decide) (by decide) (by decide) (by omega) (c_U1 (k' := 0) (by decide) (by decide) (by decide) (by decide) rfl (c_U0 (by decide) (by decide) (by decide) (by decide) (c_W11 hK n m x e (by omega)))))
  · exact cT_up (by decide) rfl (c_T0 (by decide) (by decide) (by decide) (by omega) (c_U1 (k' := 0) (by decide) (by decide) (by decide) (by decide) rfl (c_U0 (by decide) (by decide) (by decide) (by decide) (c_W11 hK n m x e (by omega)))))
  · exact cT_up (by decide) rfl (c_T0 (by decide) (by decide) (by decide) (by omega) (c_U0 (by decide) (by decide) (by decide) (by decide) (c_W40 hK n m x e (by omega))))
  · exact cT_up (by decide) rfl (c_T0 (by decide) (by decide) (by decide) (by omega) (c_U1 (k' := 1) (by decide) (by decide) (by decide) (by decide) rfl (c_U1 (k' := 0) (by decide) (by decide) (by decide) (by decide) rfl (c_U0 (by decide) (by decide) (by decide) (by decide) (c_W11 hK n m x e (by omega))))))
  · exact cT_up (by decide) rfl (c_T0 (by decide) (by decide) (by decide) (by omega) (c_U1 (k' := 2) (by decide) (by decide) (by decide) (by decide) rfl (c_U1 (k' := 0) (by decide) (by decide) (by decide) (by decide) rfl (c_U0 (by decide) (by decide) (by decide) (by decide) (c_W11 hK n m x e (by omega))))))
  · exact cT_up (by decide) rfl (c_T0 (by decide) (by decide) (by decide) (by omega) (c_U0 (by decide) (by decide) (by decide) (by decide) (c_W70 hK n m x e he)))
theorem c_W13 {K : Nat} (hK : K < 7) (n m x : Int32) (e : Nat) (he : e + 5 ≤ 20) : cW73 6 K n m 0 3 x e (nI 13 :: ((sp_vs n m K x K).1 ++ (sp_vf n m x K).1), (sp_vs n m K x K).2 ^^^ (sp_vf n m x K).2) := by
  intro S Q t y6 y1 C ht Kk
  have ht : t + (((sp_vs n m K x K).1 ++ (sp_vf n m x K).1).length + 1) ≤ 40 := ht
  have Kk : Q (some (.int ((sp_vs n m K x K).2 ^^^ (sp_vf n m x K).2))) (cvl (cvr S t (nI 13)) (t + 1) ((sp_vs n m K x K).1 ++ (sp_vf n m x K).1)) := Kk
  rw [cvl_app] at Kk
  rw [List.length_append] at ht
  have C3 := cV_l (sp_vs n m K x K).1 (cV_r C (nI 13))
  have s0 := c_saysB hK n m x (e + 1) (by omega) hK
  generalize sp_vs n m K x K = r0 at Kk ht C3 s0 ⊢
  refine wp_getstatic d_Vo_body_73 ow_Vo_body gs_6_43 ?_
  refine wp_iconst (x := nI 4) d_Vo_body_76 rfl ?_
  refine wp_iload d_Vo_body_77 rfl ?_
  refine wp_imul d_Vo_body_79 (pk_mul _ _) ?_
  refine wp_iload_n d_Vo_body_80 rfl rfl ?_
  refine wp_iadd d_Vo_body_81 (nI_add _ _) ?_
  refine wp_ialoadC d_Vo_body_82 rfl (by omega) (by decide) ((rfl : _ = nI 13)) ?_
  refine wp_isto6 d_Vo_body_83 rfl ?_
  refine wp_aload_n d_Vo_body_85 rfl rfl ?_
  refine wp_iload d_Vo_body_86 rfl ?_
  refine wp_invV d_Vo_body_88 ow_Vo_body lk_6_49 (by decide) mi_Vo_begin rfl rfl (Nat.le_of_ble_eq_true rfl) rfl (wp_isC (O_79 _)) (show h_Vo_begin ≤ _ from by decide) (c_vbegin C.1 (by omega) _ ?_)
  refine wp_Kv ?_
  refine wp_getstatic d_Vo_body_91 ow_Vo_body gs_6_46 ?_
  refine wp_iload d_Vo_body_94 rfl ?_
  refine wp_ialoadC d_Vo_body_96 rfl (by omega) (by decide) (ka_e (k := 0) (by decide)) ?_
  refine wp_isto7 d_Vo_body_97 rfl ?_
  refine wp_aload_n d_Vo_body_99 rfl rfl ?_
  refine wp_getI d_Vo_body_100 ow_Vo_body fl_6_19 (O_79 _) rfl ((cV_r C _).2.1) ?_
  refine wp_isto8 d_Vo_body_103 rfl ?_
  refine wp_iload d_Vo_body_105 rfl ?_
  refine wp_iconst (x := nI 1) d_Vo_body_107 rfl ?_
  refine wp_iadd d_Vo_body_108 (nI_add _ _) ?_
  refine wp_isto9 d_Vo_body_109 rfl ?_
  refine wp_iload d_Vo_body_111 rfl ?_
  refine wp_ls (pc' := 239) d_Vo_body_113 (by decide) rfl (by decide) ?_
  refine wp_aload_n d_Vo_body_239 rfl rfl ?_
  refine wp_iload d_Vo_body_240 rfl ?_
  refine wp_iconst (x := nI 1) d_Vo_body_242 rfl ?_
  refine wp_iload_n d_Vo_body_243 rfl rfl ?_
  refine wp_iload d_Vo_body_244 rfl ?_
  refine wp_invS d_Vo_body_246 ow_Vo_body lk_6_35 (by decide) mi_Vo_body rfl rfl (Nat.le_of_ble_eq_true rfl) rfl (Nat.le_refl _) (s0 _ _ _ (cV_r C _) (by omega) ?_)
  refine wp_Ki ?_
  refine wp_aload_n d_Vo_body_249 rfl rfl ?_
  refine wp_iload d_Vo_body_250 rfl ?_
  refine wp_iconst (x := nI 2) d_Vo_body_252 rfl ?_
  refine wp_iload_n d_Vo_body_253 rfl rfl ?_
  refine wp_iload d_Vo_body_254 rfl ?_
  refine wp_invS d_Vo_body_256 ow_Vo_body lk_6_35 (by decide) mi_Vo_body rfl rfl (Nat.le_of_ble_eq_true rfl) rfl (show 4 ≤ 6 by decide) (c_fearsB K n m x (e + 1) (by omega) hK _ _ _ C3 (by omega) ?_)
  refine wp_Ki ?_
  refine wp_ixor d_Vo_body_259 rfl ?_
  refine wp_reti d_Vo_body_260 rt_Vo_body ?_
  exact Kk
theorem c_t0 {K : Nat} (hK : K < 7) (n m x : Int32) (e : Nat) (he : e + 5 ≤ 20) : cT 7 K n m 0 3 x e (sp_vt0 n m K x) := (c_T0 (by decide) (by decide) (by decide) (by omega) (c_U0 (by decide) (by decide) (by decide) (by decide) (c_W13 hK n m x e he)))
theorem c_t1 {K : Nat} (hK : K < 7) (n m x : Int32) (e : Nat) (he : e + 5 ≤ 20) : cT 7 K n m 1 3 x e (sp_vt0 n m K x) := (c_T0 (by decide) (by decide) (by decide) (by omega) (c_U1 (k' := 0) (by decide) (by decide) (by decide) (by decide) rfl (c_U0 (by decide) (by decide) (by decide) (by decide) (c_W13 hK n m x e he))))
theorem c_t2 {K : Nat} (hK : K < 7) (n m x : Int32) (e : Nat) (he : e + 5 ≤ 20) : cT 7 K n m 2 3 x e (sp_vt0 n m K x) := (c_T0 (by decide) (by decide) (by decide) (by omega) (c_U1 (k' := 0) (by decide) (by decide) (by decide) (by decide) rfl (c_U0 (by decide) (by decide) (by decide) (by decide) (c_W13 hK n m x e he))))
theorem c_W50 {K : Nat} (hK : K < 7) (n m x : Int32) (e : Nat) (he : e + 6 ≤ 20) : cW73 7 K n m 4 3 x e (nI 50 :: ((sp_vt0 n m K x).1 ++ (sp_vh n (nI 2) K).1), (sp_vt0 n m K x).2 - (sp_vh n (nI 2) K).2) := by
  intro S Q t y6 y1 C ht Kk
  have ht : t + (((sp_vt0 n m K x).1 ++ (sp_vh n (nI 2) K).1).length + 1) ≤ 40 := ht
  have Kk : Q (some (.int ((sp_vt0 n m K x).2 - (sp_vh n (nI 2) K).2))) (cvl (cvr S t (nI 50)) (t + 1) ((sp_vt0 n m K x).1 ++ (sp_vh n (nI 2) K).1)) := Kk
  rw [cvl_app] at Kk
  rw [List.length_append] at ht
  have C3 := cV_l (sp_vt0 n m K x).1 (cV_r C (nI 50))
  have s0 := c_t1 hK n m x (e + 1) (by omega)
  generalize sp_vt0 n m K x = r0 at Kk ht C3 s0 ⊢
  refine wp_getstatic d_Vo_body_73 ow_Vo_body gs_6_43 ?_
  refine wp_iconst (x := nI 4) d_Vo_body_76 rfl ?_
  refine wp_iload d_Vo_body_77 rfl ?_
  refine wp_imul d_Vo_body_79 (pk_mul _ _) ?_
  refine wp_iload_n d_Vo_body_80 rfl rfl ?_
  refine wp_iadd d_Vo_body_81 (nI_add _ _) ?_
  refine wp_ialoadC d_Vo_body_82 rfl (by omega) (by decide) ((rfl : _ = nI 50)) ?_
  refine wp_isto6 d_Vo_body_83 rfl ?_
  refine wp_aload_n d_Vo_body_85 rfl rfl ?_
  refine wp_iload d_Vo_body_86 rfl ?_
  refine wp_invV d_Vo_body_88 ow_Vo_body lk_6_49 (by decide) mi_Vo_begin rfl rfl (Nat.le_of_ble_eq_true rfl) rfl (wp_isC (O_79 _)) (show h_Vo_begin ≤ _ from by decide) (c_vbegin C.1 (by omega) _ ?_)
  refine wp_Kv ?_
  refine wp_getstatic d_Vo_body_91 ow_Vo_body gs_6_46 ?_
  refine wp_iload d_Vo_body_94 rfl ?_
  refine wp_ialoadC d_Vo_body_96 rfl (by omega) (by decide) ((rfl : _ = nI 1)) ?_
  refine wp_isto7 d_Vo_body_97 rfl ?_
  refine wp_aload_n d_Vo_body_99 rfl rfl ?_
  refine wp_getI d_Vo_body_100 ow_Vo_body fl_6_19 (O_79 _) rfl ((cV_r C _).2.1) ?_
  refine wp_isto8 d_Vo_body_103 rfl ?_
  refine wp_iload d_Vo_body_105 rfl ?_
  refine wp_iconst (x := nI 1) d_Vo_body_107 rfl ?_
  refine wp_iadd d_Vo_body_108 (nI_add _ _) ?_
  refine wp_isto9 d_Vo_body_109 rfl ?_
  refine wp_iload d_Vo_body_111 rfl ?_
  refine wp_ls (pc' := 308) d_Vo_body_113 (by decide) rfl (by decide) ?_
  refine wp_aload_n d_Vo_body_308 rfl rfl ?_
  refine wp_iload d_Vo_body_309 rfl ?_
  refine wp_iconst (x := nI 3) d_Vo_body_311 rfl ?_
  refine wp_iload_n d_Vo_body_312 rfl rfl ?_
  refine wp_iload d_Vo_body_313 rfl ?_
  refine wp_invS d_Vo_body_315 ow_Vo_body lk_6_35 (by decide) mi_Vo_body rfl rfl (Nat.le_of_ble_eq_true rfl) rfl (Nat.le_refl _) (s0 _ _ _ (cV_r C _) (by omega) ?_)
  refine wp_Ki ?_
  refine wp_aload_n d_Vo_body_318 rfl rfl ?_
  refine wp_iload d_Vo_body_319 rfl ?_
  refine wp_iconst (x := nI 0) d_Vo_body_321 rfl ?_
  refine wp_iconst (x := nI 2) d_Vo_body_322 rfl ?_
  refine wp_iload d_Vo_body_323 rfl ?_
  refine wp_invS d_Vo_body_325 ow_Vo_body lk_6_35 (by decide) mi_Vo_body rfl rfl (Nat.le_of_ble_eq_true rfl) rfl (show 3 ≤ 7 by decide) (c_hearsB K n m (nI 2) (e + 1) (by omega) hK _ _ _ C3 (by omega) ?_)
  refine wp_Ki ?_
  refine wp_isub d_Vo_body_328 rfl ?_
  refine wp_reti d_Vo_body_329 rt_Vo_body ?_
  exact Kk
theorem c_W61 {K : Nat} (hK : K < 7) (n m x : Int32) (e : Nat) (he : e + 6 ≤ 20) : cW73 7 K n m 5 3 x e (nI 61 :: ((sp_vs n m K x K).1 ++ (sp_vt0 n m K x).1), (sp_vs n m K x K).2 - (sp_vt0 n m K x).2) := by
  intro S Q t y6 y1 C ht Kk
  have ht : t + (((sp_vs n m K x K).1 ++ (sp_vt0 n m K x).1).length + 1) ≤ 40 := ht
  have Kk : Q (some (.int ((sp_vs n m K x K).2 - (sp_vt0 n m K x).2))) (cvl (cvr S t (nI 61)) (t + 1) ((sp_vs n m K x K).1 ++ (sp_vt0 n m K x).1)) := Kk
  rw [cvl_app] at Kk
  rw [List.length_append] at ht
  have C3 := cV_l (sp_vs n m K x K).1 (cV_r C (nI 61))
  have s0 := c_t2 hK n m x (e + 1) (by omega)
  have s1 := c_saysB hK n m x (e + 1) (by omega) hK
  generalize sp_vs n m K x K = r1 at Kk ht C3 s1 ⊢
  generalize sp_vt0 n m K x = r0 at Kk ht s0 ⊢
  refine wp_getstatic d_Vo_body_73 ow_Vo_body gs_6_43 ?_
  refine wp_iconst (x := nI 4) d_Vo_body_76 rfl ?_
  refine wp_iload d_Vo_body_77 rfl ?_
  refine wp_imul d_Vo_body_79 (pk_mul _ _) ?_
  refine wp_iload_n d_Vo_body_80 rfl rfl ?_
  refine wp_iadd d_Vo_body_81 (nI_add _ _) ?_
  refine wp_ialoadC d_Vo_body_82 rfl (by omega) (by decide) ((rfl : _ = nI 61)) ?_
  refine wp_isto6 d_Vo_body_83 rfl ?_
  refine wp_aload_n d_Vo_body_85 rfl rfl ?_
  refine wp_iload d_Vo_body_86 rfl ?_
  refine wp_invV d_Vo_body_88 ow_Vo_body lk_6_49 (by decide) mi_Vo_begin rfl rfl (Nat.le_of_ble_eq_true rfl) rfl (wp_isC (O_79 _)) (show h_Vo_begin ≤ _ from by decide) (c_vbegin C.1 (by omega) _ ?_)
  refine wp_Kv ?_
  refine wp_getstatic d_Vo_body_91 ow_Vo_body gs_6_46 ?_
  refine wp_iload d_Vo_body_94 rfl ?_
  refine wp_ialoadC d_Vo_body_96 rfl (by omega) (by decide) ((rfl : _ = nI 2)) ?_
  refine wp_isto7 d_Vo_body_97 rfl ?_
  refine wp_aload_n d_Vo_body_99 rfl rfl ?_
  refine wp_getI d_Vo_body_100 ow_Vo_body fl_6_19 (O_79 _) rfl ((cV_r C _).2.1) ?_
  refine wp_isto8 d_Vo_body_103 rfl ?_
  refine wp_iload d_Vo_body_105 rfl ?_
  refine wp_iconst (x := nI 1) d_Vo_body_107 rfl ?_
  refine wp_iadd d_Vo_body_108 (nI_add _ _) ?_
  refine wp_isto9 d_Vo_body_109 rfl ?_
  refine wp_iload d_Vo_body_111 rfl ?_
  refine wp_ls (pc' := 346) d_Vo_body_113 (by decide) rfl (by decide) ?_
  refine wp_aload_n d_Vo_body_346 rfl rfl ?_
  refine wp_iload d_Vo_body_347 rfl ?_
  refine wp_iconst (x := nI 1) d_Vo_body_349 rfl ?_
  refine wp_iload_n d_Vo_body_350 rfl rfl ?_
  refine wp_iload d_Vo_body_351 rfl ?_
  refine wp_invS d_Vo_body_353 ow_Vo_body lk_6_35 (by decide) mi_Vo_body rfl rfl (Nat.le_of_ble_eq_true rfl) rfl (show 6 ≤ 7 by decide) (s1 _ _ _ (cV_r C _) (by omega) ?_)
  refine wp_Ki ?_
  refine wp_aload_n d_Vo_body_356 rfl rfl ?_
  refine wp_iload d_Vo_body_357 rfl ?_
  refine wp_iconst (x := nI 3) d_Vo_body_359 rfl ?_
  refine wp_iload_n d_Vo_body_360 rfl rfl ?_
  refine wp_iload d_Vo_body_361 rfl ?_
  refine wp_invS d_Vo_body_363 ow_Vo_body lk_6_35 (by decide) mi_Vo_body rfl rfl (Nat.le_of_ble_eq_true rfl) rfl (Nat.le_refl _) (s0 _ _ _ C3 (by omega) ?_)
  refine wp_Ki ?_
  refine wp_isub d_Vo_body_366 rfl ?_
  refine wp_reti d_Vo_body_367 rt_Vo_body ?_
  exact Kk
theorem c_tellsB {K : Nat} (hK : K < 7) (n m x : Int32) (e : Nat) (he : e + 6 ≤ 20) {k : Nat} (hk : k < 7) : cT 8 K n m k 3 x e (sp_vt n m K x k) := by
  rcases (show k = 0 ∨ k = 1 ∨ k = 2 ∨ k = 3 ∨ k = 4 ∨ k = 5 ∨ k = 6 by omega) with rfl | rfl | rfl | rfl | rfl | rfl | rfl
  · exact cT_up (by decide) rfl (c_T0 (by decide) (by decide) (by decide) (by omega) (c_U0 (by decide) (by decide) (by decide) (by decide) (c_W13 hK n m x e (by omega))))
  · exact cT_up (by decide) rfl (c_T0 (by decide) (by decide) (by decide) (by omega) (c_U1 (k' := 0) (by decide) (by decide) (by decide) (by decide) rfl (c_U0 (by decide) (by decide) (by decide) (by decide) (c_W13 hK n m x e (by omega)))))
  · exact cT_up (by decide) rfl (c_T0 (by decide) (by decide) (by decide) (by omega) (c_U1 (k' := 0) (by decide) (by decide) (by decide) (by decide) rfl (c_U0 (by decide) (by decide) (by decide) (by decide) (c_W13 hK n m x e (by omega)))))
  · exact cT_up (by decide) rfl (c_T0 (by decide) (by decide) (by decide) (by omega) (c_U1 (k' := 0) (by decide) (by decide) (by decide) (by decide) rfl (c_U0 (by decide) (by decide) (by decide) (by decide) (c_W13 hK n m x e (by omega)))))
  · exact cT_up (by decide) rfl (c_T0 (by decide) (by decide) (by decide) (by omega) (c_U0 (by decide) (by decide) (by decide) (by decide) (c_W50 hK n m x e he)))
  · exact cT_up (by decide) rfl (c_T0 (by decide) (by decide) (by decide) (by omega) (c_U0 (by decide) (by decide) (by decide) (by decide) (c_W61 hK n m x e he)))
  · exact cT_up (by decide) rfl (c_T0 (by decide) (by decide) (by decide) (by omega) (c_U1 (k' := 3) (by decide) (by decide) (by decide) (by decide) rfl (c_U1 (k' := 0) (by decide) (by decide) (by decide) (by decide) rfl (c_U0 (by decide) (by decide) (by decide) (by decide) (c_W13 hK n m x e (by omega))))))
end CR
