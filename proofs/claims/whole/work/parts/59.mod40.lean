/-! the reference: odds -/
abbrev nL (n : Nat) : Int64 := Int64.ofNat n
theorem nL_i {n : Nat} (h : n < 2 ^ 63) : (nL n).toInt = n := lg_ofNat_toInt h
theorem nL_eq {a b : Nat} (ha : a < 2 ^ 63) (hb : b < 2 ^ 63) : nL a = nL b ↔ a = b := by
  rw [← Int64.toInt_inj, nL_i ha, nL_i hb]
  omega
theorem nL_lt {a b : Nat} (ha : a < 2 ^ 63) (hb : b < 2 ^ 63) : nL a < nL b ↔ a < b := by
  rw [Int64.lt_iff_toInt_lt, nL_i ha, nL_i hb]
  omega
theorem nL_le {a b : Nat} (ha : a < 2 ^ 63) (hb : b < 2 ^ 63) : nL a ≤ nL b ↔ a ≤ b := by
  rw [Int64.le_iff_toInt_le, nL_i ha, nL_i hb]
  omega
theorem nL_mul (a b : Nat) : nL a * nL b = nL (a * b) := (Int64.ofNat_mul a b).symm
theorem nL_16 {k : Nat} (h : k < 10) : nL 16 - (nI k).toInt64 = nL (16 - k) := by
  rcases (show k = 0 ∨ k = 1 ∨ k = 2 ∨ k = 3 ∨ k = 4 ∨ k = 5 ∨ k = 6 ∨ k = 7 ∨ k = 8 ∨ k = 9 by omega) with rfl | rfl | rfl | rfl | rfl | rfl | rfl | rfl | rfl | rfl <;> decide
theorem nL_div2 {a : Nat} (h : a < 2 ^ 63) : nL a / nL 2 = nL (a / 2) := by
  rw [← Int64.toInt_inj, lg_ldiv_nonneg (by rw [nL_i h]; omega) (by rw [nL_i (by omega)]; omega), nL_i h, nL_i (by omega), nL_i (by omega)]
  omega
theorem nL_and1 {a : Nat} (h : a < 2 ^ 63) : nL a &&& nL 1 = nL (a % 2) := by
  apply Int64.toBitVec_inj.mp
  apply BitVec.eq_of_toNat_eq
  show ((BitVec.ofNat 64 a) &&& (BitVec.ofNat 64 1)).toNat = (BitVec.ofNat 64 (a % 2)).toNat
  rw [BitVec.toNat_and, BitVec.toNat_ofNat, BitVec.toNat_ofNat, BitVec.toNat_ofNat, Nat.mod_eq_of_lt (show a < 2 ^ 64 by omega), Nat.mod_eq_of_lt (show 1 < 2 ^ 64 by omega), Nat.mod_eq_of_lt (show a % 2 < 2 ^ 64 by omega), Nat.and_one_is_mod]
noncomputable def sp_oa (q : sp_R) (o : Int32) : Nat → Nat × Nat
  | 0 => (1, 1)
  | k + 1 => sp_if (sp_who q (-1) k = o) ((sp_oa q o k).1 * (16 - sp_m q k), (sp_oa q o k).2 * 16) (sp_oa q o k)
theorem sp_oa_0 (q : sp_R) (o : Int32) : sp_oa q o 0 = (1, 1) := by rw [sp_oa]
theorem sp_oa_s (q : sp_R) (o : Int32) (k : Nat) : sp_oa q o (k + 1) = sp_if (sp_who q (-1) k = o) ((sp_oa q o k).1 * (16 - sp_m q k), (sp_oa q o k).2 * 16) (sp_oa q o k) := by rw [sp_oa]
theorem sp_oa_le (q : sp_R) (o : Int32) : ∀ k, (sp_oa q o k).1 ≤ 16 ^ k ∧ (sp_oa q o k).2 ≤ 16 ^ k
  | 0 => by rw [sp_oa_0]; exact ⟨Nat.le_refl _, Nat.le_refl _⟩
  | k + 1 => by
    have h := sp_oa_le q o k
    rw [sp_oa_s, Nat.pow_succ]
    by_cases g : sp_who q (-1) k = o
    · rw [sp_if_t g]
      exact ⟨Nat.mul_le_mul h.1 (Nat.sub_le _ _), Nat.mul_le_mul_right _ h.2⟩
    · rw [sp_if_f g]
      exact ⟨by have := h.1; omega, by have := h.2; omega⟩
noncomputable def sp_hv : Nat → Nat × Nat → Nat × Nat
  | 0, r => r
  | f + 1, r => sp_if (1 < r.2 ∧ r.1 % 2 = 0) (sp_hv f (r.1 / 2, r.2 / 2)) r
theorem sp_hv_0 (r : Nat × Nat) : sp_hv 0 r = r := by rw [sp_hv]
theorem sp_hv_s (f : Nat) (r : Nat × Nat) : sp_hv (f + 1) r = sp_if (1 < r.2 ∧ r.1 % 2 = 0) (sp_hv f (r.1 / 2, r.2 / 2)) r := by rw [sp_hv]
noncomputable def sp_od (q : sp_R) (o w : Int32) : Int64 := sp_if (w = 0) (nL (sp_hv 40 (sp_oa q o (sp_n q))).1) (nL (sp_hv 40 (sp_oa q o (sp_n q))).2)
section OD
variable {S : wp_S} {q : sp_R} {mu : Int32} {Q : Option Value → wp_S → Prop}
theorem m_od_e (o w : Int32) (r : Nat × Nat) (l7 : Option Value) (K1 : w = 0 → Q (some (.long (nL r.1))) S) (K2 : ¬ w = 0 → Q (some (.long (nL r.2))) S) : wp (h_Mo_odds - 1) y_Mo_odds 114 [some (.ref 91), some (.int o), some (.int w), some (.long (nL r.1)), none, some (.long (nL r.2)), none, l7] [] S Q := by
  refine wp_iload_n d_Mo_odds_114 rfl rfl ?_
  refine wp_if_ne (pc' := 122) d_Mo_odds_115 (by decide) (fun h115 => ?_) (fun h115 => ?_)
  · refine wp_lload d_Mo_odds_122 rfl ?_
    refine wp_lreturn d_Mo_odds_124 rt_Mo_odds ?_
    exact K2 h115
  · refine wp_lload_n d_Mo_odds_118 rfl rfl ?_
    refine wp_goto (pc' := 124) d_Mo_odds_119 (by decide) ?_
    refine wp_lreturn d_Mo_odds_124 rt_Mo_odds ?_
    exact K1 h115
theorem m_hv (o w : Int32) (r0 : Nat × Nat) (l7 : Option Value) (K : Q (some (.long (sp_if (w = 0) (nL r0.1) (nL r0.2)))) S) : ∀ f (r : Nat × Nat), sp_hv f r = r0 → r.1 < 2 ^ 63 → r.2 ≤ 2 ^ f → f ≤ 40 → wp (h_Mo_odds - 1) y_Mo_odds 82 [some (.ref 91), some (.int o), some (.int w), some (.long (nL r.1)), none, some (.long (nL r.2)), none, l7] [] S Q := by
  intro f
  induction f with
  | zero =>
    intro r e h1 h2 hf
    rw [sp_hv_0] at e
    subst e
    have h2 : r.2 ≤ 1 := h2
    refine wp_lload d_Mo_odds_82 rfl ?_
    refine wp_lconst (x := 1) d_Mo_odds_84 rfl ?_
    refine wp_lcmp d_Mo_odds_85 (rfl) ?_
    refine wp_if_le (pc' := 114) d_Mo_odds_86 (by decide) (fun h86 => ?_) (fun h86 => absurd ((lg_cmp_le _ _).mpr ((nL_le (by omega) (by omega)).mpr h2)) h86)
    refine wp_iload_n d_Mo_odds_114 rfl rfl ?_
    refine wp_if_ne (pc' := 122) d_Mo_odds_115 (by decide) (fun h115 => ?_) (fun h115 => ?_)
    · refine wp_lload d_Mo_odds_122 rfl ?_
      refine wp_lreturn d_Mo_odds_124 rt_Mo_odds ?_
      rw [sp_if_f h115] at K
      exact K
    · refine wp_lload_n d_Mo_odds_118 rfl rfl ?_
      refine wp_goto (pc' := 124) d_Mo_odds_119 (by decide) ?_
      refine wp_lreturn d_Mo_odds_124 rt_Mo_odds ?_
      rw [sp_if_t h115] at K
      exact K
  | succ f ih =>
    intro r e h1 h2 hf
    have hp : 2 ^ (f + 1) ≤ 2 ^ 40 := Nat.pow_le_pow_right (by decide) hf
    have h3 : r.2 < 2 ^ 63 := by omega
    have h4 : r.2 / 2 ≤ 2 ^ f := by rw [Nat.pow_succ] at h2; omega
    rw [sp_hv_s] at e
    refine wp_lload d_Mo_odds_82 rfl ?_
    refine wp_lconst (x := 1) d_Mo_odds_84 rfl ?_
    refine wp_lcmp d_Mo_odds_85 (rfl) ?_
    refine wp_if_le (pc' := 114) d_Mo_odds_86 (by decide) (fun h86 => ?_) (fun h86 => ?_)
    · rw [sp_if_f (fun z => by
        first
        | exact absurd ((lg_cmp_le _ _).mp h86) (fun g => by have := (nL_le (a := r.2) (b := 1) h3 (by omega)).mp g; omega)
        | exact h94 ((lg_cmp_eq _ _).mpr ((nL_eq (a := r.1 % 2) (b := 0) (by omega) (by omega)).mpr z.2)))] at e
      subst e
      by_cases hw : w = 0
      · rw [sp_if_t hw] at K
        exact m_od_e o w r l7 (fun _ => K) (fun z => absurd hw z)
      · rw [sp_if_f hw] at K
        exact m_od_e o w r l7 (fun z => absurd z hw) (fun _ => K)
    · refine wp_lload_n d_Mo_odds_89 rfl rfl ?_
      refine wp_lconst (x := 1) d_Mo_odds_90 rfl ?_
      refine wp_land d_Mo_odds_91 (nL_and1 h1) ?_
      refine wp_lconst (x := 0) d_Mo_odds_92 rfl ?_
      refine wp_lcmp d_Mo_odds_93 (rfl) ?_
      refine wp_if_ne (pc' := 114) d_Mo_odds_94 (by decide) (fun h94 => ?_) (fun h94 => ?_)
      · rw [sp_if_f (fun z => by
          first
          | exact absurd ((lg_cmp_le _ _).mp h86) (fun g => by have := (nL_le (a := r.2) (b := 1) h3 (by omega)).mp g; omega)
          | exact h94 ((lg_cmp_eq _ _).mpr ((nL_eq (a := r.1 % 2) (b := 0) (by omega) (by omega)).mpr z.2)))] at e
        subst e
        by_cases hw : w = 0
        · rw [sp_if_t hw] at K
          exact m_od_e o w r l7 (fun _ => K) (fun z => absurd hw z)
        · rw [sp_if_f hw] at K
          exact m_od_e o w r l7 (fun z => absurd z hw) (fun _ => K)
      · refine wp_lload_n d_Mo_odds_97 rfl rfl ?_
        refine wp_ldc2_w (v := 2) d_Mo_odds_98 ow_Mo_odds (by decide +kernel) ?_
        refine wp_ldiv d_Mo_odds_101 (by decide) (nL_div2 h1) ?_
        refine wp_lston3 d_Mo_odds_102 rfl ?_
        refine wp_lload d_Mo_odds_103 rfl ?_
        refine wp_ldc2_w (v := 2) d_Mo_odds_105 ow_Mo_odds (by decide +kernel) ?_
        refine wp_ldiv d_Mo_odds_108 (by decide) (nL_div2 h3) ?_
        refine wp_lsto5 d_Mo_odds_109 rfl ?_
        refine wp_goto (pc' := 82) d_Mo_odds_111 (by decide) ?_
        rw [sp_if_t ⟨by have : ¬ r.2 ≤ 1 := fun z => h86 ((lg_cmp_le _ _).mpr ((nL_le (a := r.2) (b := 1) h3 (by omega)).mpr z)); omega, (nL_eq (a := r.1 % 2) (b := 0) (by omega) (by omega)).mp ((lg_cmp_eq _ _).mp h94)⟩] at e
        exact ih (r.1 / 2, r.2 / 2) e (by show r.1 / 2 < _; omega) h4 (by omega)
theorem m_oa (hw : sp_wf q) (o w : Int32) (K : ∀ S' l7, mC S' q (-1) → fr mY S S' → wp (h_Mo_odds - 1) y_Mo_odds 82 [some (.ref 91), some (.int o), some (.int w), some (.long (nL (sp_oa q o (sp_n q)).1)), none, some (.long (nL (sp_oa q o (sp_n q)).2)), none, l7] [] S' Q) : ∀ m k (S' : wp_S), k + m = sp_n q → mC S' q (-1) → fr mY S S' → wp (h_Mo_odds - 1) y_Mo_odds 32 [some (.ref 91), some (.int o), some (.int w), some (.long (nL (sp_oa q o k).1)), none, some (.long (nL (sp_oa q o k).2)), none, some (.int (nI k))] [] S' Q := by
  have hn := hw.n
  intro m
  induction m with
  | zero =>
    intro k S' hk C fS
    obtain rfl : k = sp_n q := by omega
    refine wp_iload d_Mo_odds_32 rfl ?_
    refine wp_aload_n d_Mo_odds_34 rfl rfl ?_
    refine wp_getR d_Mo_odds_35 ow_Mo_odds fl_8_7 (O_91 _) rfl ?_
    refine wp_iconst (x := nI 0) d_Mo_odds_38 rfl ?_
    refine wp_iaload d_Mo_odds_39 (A_92 _) (by omega) (by decide) ((congrFun C.1 0).trans hn.2) ?_
    refine wp_icN_ge (pc' := 82) d_Mo_odds_40 (by decide) (by omega) (by omega) (fun h40 => ?_) (fun h40 => absurd h40 (by omega))
    exact K S' _ C fS
  | succ m ih =>
    intro k S' hk C fS
    have e := sp_oa_s q o k
    have IH := fun S' => ih (k + 1) S' (by omega)
    clear ih
    rw [e] at IH
    obtain ⟨g1, g2⟩ := (hw.f (show k < sp_n q by omega)).m
    have hmul1 := nL_mul (sp_oa q o k).1 (16 - sp_m q k)
    have hmul2 := nL_mul (sp_oa q o k).2 16
    refine wp_iload d_Mo_odds_32 rfl ?_
    refine wp_aload_n d_Mo_odds_34 rfl rfl ?_
    refine wp_getR d_Mo_odds_35 ow_Mo_odds fl_8_7 (O_91 _) rfl ?_
    refine wp_iconst (x := nI 0) d_Mo_odds_38 rfl ?_
    refine wp_iaload d_Mo_odds_39 (A_92 _) (by omega) (by decide) ((congrFun C.1 0).trans hn.2) ?_
    refine wp_icN_ge (pc' := 82) d_Mo_odds_40 (by decide) (by omega) (by omega) (fun h40 => absurd h40 (by omega)) (fun h40 => ?_)
    refine wp_aload_n d_Mo_odds_43 rfl rfl ?_
    refine wp_iload d_Mo_odds_44 rfl ?_
    refine wp_invV d_Mo_odds_46 ow_Mo_odds lk_8_90 (by decide) mi_Mo_whose rfl rfl (Nat.le_of_ble_eq_true rfl) rfl (wp_isC (O_91 _)) (show h_Mo_whose ≤ _ from by decide) (m_whose C hw k (by omega) (fun S2 f2 => ?_))
    refine wp_Ki ?_
    refine wp_iload_n d_Mo_odds_49 rfl rfl ?_
    refine wp_ic_ne (pc' := 76) d_Mo_odds_50 (by decide) (fun h50 => ?_) (fun h50 => ?_)
    · refine wp_iinc7 d_Mo_odds_76 rfl (nI_add _ 1) ?_
      refine wp_goto (pc' := 32) d_Mo_odds_79 (by decide) ?_
      first
      | (rw [sp_if_t h50] at IH
         exact IH S2 (C.fr f2) (fS.tr (fr_YD f2)))
      | (rw [sp_if_f h50] at IH
         exact IH S2 (C.fr f2) (fS.tr (fr_YD f2)))
    · refine wp_lload_n d_Mo_odds_53 rfl rfl ?_
      refine wp_ldc2_w (v := 16) d_Mo_odds_54 ow_Mo_odds (by decide +kernel) ?_
      refine wp_aload_n d_Mo_odds_57 rfl rfl ?_
      refine wp_iload d_Mo_odds_58 rfl ?_
      refine wp_iconst (x := nI 1) d_Mo_odds_60 rfl ?_
      refine wp_invV d_Mo_odds_61 ow_Mo_odds lk_8_72 (by decide) mi_Mo_its rfl rfl (Nat.le_of_ble_eq_true rfl) rfl (wp_isC (O_91 _)) (show h_Mo_its ≤ _ from by decide) (m_its (C.fr f2).1 k 1 (by omega) (lf_i g2 ?_))
      refine wp_Ki ?_
      refine wp_i2l d_Mo_odds_64 (rfl) ?_
      refine wp_lsub d_Mo_odds_65 (nL_16 g1) ?_
      refine wp_lmul d_Mo_odds_66 (hmul1) ?_
      refine wp_lston3 d_Mo_odds_67 rfl ?_
      refine wp_lload d_Mo_odds_68 rfl ?_
      refine wp_ldc2_w (v := 16) d_Mo_odds_70 ow_Mo_odds (by decide +kernel) ?_
      refine wp_lmul d_Mo_odds_73 (hmul2) ?_
      refine wp_lsto5 d_Mo_odds_74 rfl ?_
      refine wp_iinc7 d_Mo_odds_76 rfl (nI_add _ 1) ?_
      refine wp_goto (pc' := 32) d_Mo_odds_79 (by decide) ?_
      first
      | (rw [sp_if_t h50] at IH
         exact IH S2 (C.fr f2) (fS.tr (fr_YD f2)))
      | (rw [sp_if_f h50] at IH
         exact IH S2 (C.fr f2) (fS.tr (fr_YD f2)))
theorem m_odds (C : mC S q (-1)) (hw : sp_wf q) (o w : Int32) (K1 : sp_isW o 3 ∧ sp_isW w 1 → ∀ S', mC S' q (-1) → fr mY S S' → Q (some (.long (sp_od q o w))) S') (K0 : ¬ (sp_isW o 3 ∧ sp_isW w 1) → Q (some (.long (-1000000001))) (wp_u S 96 1 (S.2 96 1 + nI 1))) : cl h_Mo_odds y_Mo_odds [.ref k_Mo, .int o, .int w] S Q := by
  have hn := hw.n
  by_cases h : sp_isW o 3 ∧ sp_isW w 1
  · have K1 := K1 h
    clear K0
    have e0 := sp_oa_0 q o
    have hle := sp_oa_le q o (sp_n q)
    have hp : 16 ^ sp_n q ≤ 16 ^ 10 := Nat.pow_le_pow_right (by decide) hn.1
    have st := m_oa (S := S) (Q := Q) hw o w (fun S' l7 C' f' => m_hv o w _ l7 (K1 S' C' f') 40 (sp_oa q o (sp_n q)) rfl (by omega) (by omega) (by omega)) (sp_n q) 0 S (Nat.zero_add _) C fr.rf
    rw [e0] at st
    refine cl_in ml_Mo_odds rfl rfl ?_
    refine wp_iload_n d_Mo_odds_0 rfl rfl ?_
    refine wp_invS d_Mo_odds_1 ow_Mo_odds lk_8_100 (by decide) mi_Mo_isOwner rfl rfl (Nat.le_of_ble_eq_true rfl) rfl (show h_Mo_isOwner ≤ _ from by decide) (m_isOwner _ ?_)
    refine wp_Ki ?_
    refine wp_ifB_eq (pc' := 16) d_Mo_odds_4 (by decide) (fun h4 => absurd h.1 h4) (fun h4 => ?_)
    refine wp_iload_n d_Mo_odds_7 rfl rfl ?_
    refine wp_iconst (x := nI 0) d_Mo_odds_8 rfl ?_
    refine wp_iconst (x := nI 1) d_Mo_odds_9 rfl ?_
    refine wp_invS d_Mo_odds_10 ow_Mo_odds lk_8_54 (by decide) mi_Mo_in rfl rfl (Nat.le_of_ble_eq_true rfl) rfl (show h_Mo_in ≤ _ from by decide) (m_in _ _ _ ?_)
    refine wp_Ki ?_
    refine wp_ifB_ne (pc' := 24) d_Mo_odds_13 (by decide) (fun h13 => ?_) (fun h13 => absurd h.2 h13)
    refine wp_lconst (x := 1) d_Mo_odds_24 rfl ?_
    refine wp_lston3 d_Mo_odds_25 rfl ?_
    refine wp_lconst (x := 1) d_Mo_odds_26 rfl ?_
    refine wp_lsto5 d_Mo_odds_27 rfl ?_
    refine wp_iconst (x := nI 0) d_Mo_odds_29 rfl ?_
    refine wp_isto7 d_Mo_odds_30 rfl ?_
    exact st
  · have K0 := K0 h
    refine cl_in ml_Mo_odds rfl rfl ?_
    refine wp_iload_n d_Mo_odds_0 rfl rfl ?_
    refine wp_invS d_Mo_odds_1 ow_Mo_odds lk_8_100 (by decide) mi_Mo_isOwner rfl rfl (Nat.le_of_ble_eq_true rfl) rfl (show h_Mo_isOwner ≤ _ from by decide) (m_isOwner _ ?_)
    refine wp_Ki ?_
    refine wp_ifB_eq (pc' := 16) d_Mo_odds_4 (by decide) (fun h4 => ?_) (fun h4 => ?_)
    · refine wp_aload_n d_Mo_odds_16 rfl rfl ?_
      refine wp_ldc (v := .int (-1000000001)) d_Mo_odds_17 ow_Mo_odds (by decide +kernel) ?_
      refine wp_invV d_Mo_odds_19 ow_Mo_odds lk_8_59 (by decide) mi_Mo_errs rfl rfl (Nat.le_of_ble_eq_true rfl) rfl (wp_isC (O_91 _)) (show h_Mo_errs ≤ _ from by decide) (m_errs _ 1 (by decide) (by decide) ?_)
      refine wp_Ki ?_
      refine wp_i2l d_Mo_odds_22 ((by decide : ((-1000000001 : Int32)).toInt64 = (-1000000001 : Int64))) ?_
      refine wp_lreturn d_Mo_odds_23 rt_Mo_odds ?_
      exact K0
    · refine wp_iload_n d_Mo_odds_7 rfl rfl ?_
      refine wp_iconst (x := nI 0) d_Mo_odds_8 rfl ?_
      refine wp_iconst (x := nI 1) d_Mo_odds_9 rfl ?_
      refine wp_invS d_Mo_odds_10 ow_Mo_odds lk_8_54 (by decide) mi_Mo_in rfl rfl (Nat.le_of_ble_eq_true rfl) rfl (show h_Mo_in ≤ _ from by decide) (m_in _ _ _ ?_)
      refine wp_Ki ?_
      refine wp_ifB_ne (pc' := 24) d_Mo_odds_13 (by decide) (fun h13 => absurd ⟨h4, h13⟩ h) (fun h13 => ?_)
      refine wp_aload_n d_Mo_odds_16 rfl rfl ?_
      refine wp_ldc (v := .int (-1000000001)) d_Mo_odds_17 ow_Mo_odds (by decide +kernel) ?_
      refine wp_invV d_Mo_odds_19 ow_Mo_odds lk_8_59 (by decide) mi_Mo_errs rfl rfl (Nat.le_of_ble_eq_true rfl) rfl (wp_isC (O_91 _)) (show h_Mo_errs ≤ _ from by decide) (m_errs _ 1 (by decide) (by decide) ?_)
      refine wp_Ki ?_
      refine wp_i2l d_Mo_odds_22 ((by decide : ((-1000000001 : Int32)).toInt64 = (-1000000001 : Int64))) ?_
      refine wp_lreturn d_Mo_odds_23 rt_Mo_odds ?_
      exact K0
end OD
