/-! the reference: most acres that a runner gains -/
noncomputable abbrev sp_bi (P : Prop) : Int32 := @bi P (Classical.propDecidable P)
noncomputable def sp_gN (q : sp_R) (o : Nat) : sp_R := fun j => nI (sp_nf o j 10 q 0)
def sp_ga (q : sp_R) (x : Int32) : Nat → Int32
  | 0 => nI 0
  | k + 1 => sp_ga q x k + sp_b x k * q (13 + 10 * k + 2)
theorem sp_ga_s (q : sp_R) (x : Int32) (k : Nat) : sp_ga q x (k + 1) = sp_ga q x k + sp_b x k * q (13 + 10 * k + 2) := by rw [sp_ga]
noncomputable def sp_gs (q nd : sp_R) : Nat → Int32 × Int32
  | 0 => (nI 0, nI 0)
  | k + 1 => sp_if ((sp_gs q nd k).2 < sp_ga q (nI (k + 1)) (sp_n q) ∧ sp_itP q nd (nI (k + 1)) (sp_n q)) (nI (k + 1), sp_ga q (nI (k + 1)) (sp_n q)) (sp_gs q nd k)
theorem sp_gs_s (q nd : sp_R) (k : Nat) : sp_gs q nd (k + 1) = sp_if ((sp_gs q nd k).2 < sp_ga q (nI (k + 1)) (sp_n q) ∧ sp_itP q nd (nI (k + 1)) (sp_n q)) (nI (k + 1), sp_ga q (nI (k + 1)) (sp_n q)) (sp_gs q nd k) := by rw [sp_gs]
theorem sp_gs_0 (q nd : sp_R) : sp_gs q nd 0 = (nI 0, nI 0) := by rw [sp_gs]
theorem sp_ns_c {nd md : sp_R} (x : Int32) : ∀ k, (∀ j, j < k → nd j = md j) → sp_ns nd x k = sp_ns md x k
  | 0, _ => rfl
  | k + 1, h => by rw [sp_ns_s, sp_ns_s, sp_ns_c x k (fun j hj => h j (by omega)), h k (by omega)]
theorem sp_itP_c {nd md q : sp_R} {x : Int32} {n : Nat} (h : ∀ j, j < n → nd j = md j) (g : sp_itP q nd x n) : sp_itP q md x n := fun j hj hb => by
  rw [← h j hj, ← sp_ns_c x (j + 1) (fun i hi => h i (by omega))]
  exact g j hj hb
theorem sp_gs_c {nd md q : sp_R} (h : ∀ j, j < sp_n q → nd j = md j) : ∀ k, sp_gs q nd k = sp_gs q md k
  | 0 => by rw [sp_gs_0, sp_gs_0]
  | k + 1 => by
    rw [sp_gs_s, sp_gs_s, sp_gs_c h k]
    by_cases g : (sp_gs q md k).2 < sp_ga q (nI (k + 1)) (sp_n q) ∧ sp_itP q nd (nI (k + 1)) (sp_n q)
    · rw [sp_if_t g, sp_if_t ⟨g.1, sp_itP_c h g.2⟩]
    · rw [sp_if_f g, sp_if_f (fun z => g ⟨z.1, sp_itP_c (fun j hj => (h j hj).symm) z.2⟩)]
theorem i_shl {n : Nat} (h : n ≤ 10) : nI 1 <<< (nI n &&& 31) = nI (2 ^ n) := by
  rcases (show n = 0 ∨ n = 1 ∨ n = 2 ∨ n = 3 ∨ n = 4 ∨ n = 5 ∨ n = 6 ∨ n = 7 ∨ n = 8 ∨ n = 9 ∨ n = 10 by omega) with rfl | rfl | rfl | rfl | rfl | rfl | rfl | rfl | rfl | rfl | rfl <;> decide
theorem i_pow {n : Nat} (h : n ≤ 10) : 1 ≤ 2 ^ n ∧ 2 ^ n ≤ 1024 := ⟨Nat.one_le_two_pow, (Nat.pow_le_pow_right (by decide) h : 2 ^ n ≤ 2 ^ 10)⟩
theorem mC_o {S : wp_S} {q : sp_R} {mu : Int32} (C : mC S q mu) {k : Nat} (h : k ≠ 92 ∧ k ≠ 91) (j : Nat) (x : Int32) : mC (wp_u S k j x) q mu := ⟨(funext fun i => (if_neg (fun z => h.1 z.1.symm) : (if 92 = k ∧ i = j then x else S.2 92 i) = S.2 92 i)).trans C.1, (if_neg (fun z => h.2 z.1.symm) : (if 91 = k ∧ 7 = j then x else S.2 91 7) = S.2 91 7).trans C.2⟩
section OM
variable {S : wp_S} {q : sp_R} {mu : Int32} {Q : Option Value → wp_S → Prop}
theorem m_isInTimeB (C : mC S q (-1)) (hw : sp_wf q) (x : Int32) (K : Q (some (.int (sp_bi (sp_itP q (S.2 98) x (sp_n q))))) S) : cl h_Mo_isInTime y_Mo_isInTime [.ref k_Mo, .int x] S Q :=
  m_isInTime C hw x (fun h => lf_i (@bi_t _ (Classical.propDecidable _) h).symm K) (fun h => lf_i (@bi_f _ (Classical.propDecidable _) h).symm K)
theorem m_saySoB (C : mC S q (-1)) (hw : sp_wf q) (s : Nat) (hs : s < 4) (K : Q (some (.int (sp_bi (sp_ssP q (S.2 101) (S.2 102) s (sp_n q))))) S) : cl h_Mo_saySo y_Mo_saySo [.ref k_Mo, .int (nI s)] S Q :=
  m_saySo C hw s hs (fun h => lf_i (@bi_t _ (Classical.propDecidable _) h).symm K) (fun h => lf_i (@bi_f _ (Classical.propDecidable _) h).symm K)
theorem m_ga_in (C : mC S q (-1)) (hw : sp_wf q) (o w b mo : Int32) (x : Nat) (K : wp (h_Mo_gain - 1) y_Mo_gain 117 [some (.ref 91), some (.int o), some (.int w), some (.int b), some (.int mo), some (.int (nI x)), some (.int (sp_ga q (nI x) (sp_n q))), some (.int (nI (sp_n q)))] [] S Q) : ∀ m k, k + m = sp_n q → wp (h_Mo_gain - 1) y_Mo_gain 80 [some (.ref 91), some (.int o), some (.int w), some (.int b), some (.int mo), some (.int (nI x)), some (.int (sp_ga q (nI x) k)), some (.int (nI k))] [] S Q := by
  have hn := hw.n
  intro m
  induction m with
  | zero =>
    intro k hk
    obtain rfl : k = sp_n q := by omega
    refine wp_iload d_Mo_gain_80 rfl ?_
    refine wp_aload_n d_Mo_gain_82 rfl rfl ?_
    refine wp_getR d_Mo_gain_83 ow_Mo_gain fl_8_7 (O_91 _) rfl ?_
    refine wp_iconst (x := nI 0) d_Mo_gain_86 rfl ?_
    refine wp_iaload d_Mo_gain_87 (A_92 _) (by omega) (by decide) ((congrFun C.1 0).trans hn.2) ?_
    refine wp_icN_ge (pc' := 117) d_Mo_gain_88 (by decide) (by omega) (by omega) (fun h88 => ?_) (fun h88 => absurd h88 (by omega))
    exact K
  | succ m ih =>
    intro k hk
    have e := sp_ga_s q (nI x) k
    refine wp_iload d_Mo_gain_80 rfl ?_
    refine wp_aload_n d_Mo_gain_82 rfl rfl ?_
    refine wp_getR d_Mo_gain_83 ow_Mo_gain fl_8_7 (O_91 _) rfl ?_
    refine wp_iconst (x := nI 0) d_Mo_gain_86 rfl ?_
    refine wp_iaload d_Mo_gain_87 (A_92 _) (by omega) (by decide) ((congrFun C.1 0).trans hn.2) ?_
    refine wp_icN_ge (pc' := 117) d_Mo_gain_88 (by decide) (by omega) (by omega) (fun h88 => absurd h88 (by omega)) (fun h88 => ?_)
    refine wp_iload d_Mo_gain_91 rfl ?_
    refine wp_iload d_Mo_gain_93 rfl ?_
    refine wp_iload d_Mo_gain_95 rfl ?_
    refine wp_ishr d_Mo_gain_97 rfl ?_
    refine wp_iconst (x := nI 1) d_Mo_gain_98 rfl ?_
    refine wp_iand d_Mo_gain_99 ((rfl : _ = sp_b (nI x) k)) ?_
    refine wp_aload_n d_Mo_gain_100 rfl rfl ?_
    refine wp_iload d_Mo_gain_101 rfl ?_
    refine wp_iconst (x := nI 2) d_Mo_gain_103 rfl ?_
    refine wp_invV d_Mo_gain_104 ow_Mo_gain lk_8_72 (by decide) mi_Mo_its rfl rfl (Nat.le_of_ble_eq_true rfl) rfl (wp_isC (O_91 _)) (show h_Mo_its ≤ _ from by decide) (m_its C.1 k 2 (by omega) ?_)
    refine wp_Ki ?_
    refine wp_imul d_Mo_gain_107 rfl ?_
    refine wp_iadd d_Mo_gain_108 (e.symm) ?_
    refine wp_isto6 d_Mo_gain_109 rfl ?_
    refine wp_iinc7 d_Mo_gain_111 rfl (nI_add _ 1) ?_
    refine wp_goto (pc' := 80) d_Mo_gain_114 (by decide) ?_
    exact ih (k + 1) (by omega)
theorem m_ga_out (C : mC S q (-1)) (hw : sp_wf q) (o w : Int32) (K1 : w = 0 → Q (some (.int (sp_gs q (S.2 98) (2 ^ sp_n q - 1)).2)) S) (K2 : ¬ w = 0 → Q (some (.int (sp_gs q (S.2 98) (2 ^ sp_n q - 1)).1)) S) : ∀ m k (l6 l7 : Option Value), k + 1 + m = 2 ^ sp_n q → wp (h_Mo_gain - 1) y_Mo_gain 61 [some (.ref 91), some (.int o), some (.int w), some (.int (sp_gs q (S.2 98) k).1), some (.int (sp_gs q (S.2 98) k).2), some (.int (nI (k + 1))), l6, l7] [] S Q := by
  have hn := hw.n
  have hp := i_pow hn.1
  intro m
  induction m with
  | zero =>
    intro k l6 l7 hk
    rw [show 2 ^ sp_n q - 1 = k by omega] at K1 K2
    refine wp_iload d_Mo_gain_61 rfl ?_
    refine wp_iconst (x := nI 1) d_Mo_gain_63 rfl ?_
    refine wp_aload_n d_Mo_gain_64 rfl rfl ?_
    refine wp_getR d_Mo_gain_65 ow_Mo_gain fl_8_7 (O_91 _) rfl ?_
    refine wp_iconst (x := nI 0) d_Mo_gain_68 rfl ?_
    refine wp_iaload d_Mo_gain_69 (A_92 _) (by omega) (by decide) ((congrFun C.1 0).trans hn.2) ?_
    refine wp_ishl d_Mo_gain_70 (i_shl hn.1) ?_
    refine wp_icN_ge (pc' := 146) d_Mo_gain_71 (by decide) (by omega) (by omega) (fun h71 => ?_) (fun h71 => absurd h71 (by omega))
    refine wp_iload_n d_Mo_gain_146 rfl rfl ?_
    refine wp_if_ne (pc' := 155) d_Mo_gain_147 (by decide) (fun h147 => ?_) (fun h147 => ?_)
    · refine wp_iload_n d_Mo_gain_155 rfl rfl ?_
      refine wp_reti d_Mo_gain_156 rt_Mo_gain ?_
      exact K2 h147
    · refine wp_iload d_Mo_gain_150 rfl ?_
      refine wp_goto (pc' := 156) d_Mo_gain_152 (by decide) ?_
      refine wp_reti d_Mo_gain_156 rt_Mo_gain ?_
      exact K1 h147
  | succ m ih =>
    intro k l6 l7 hk
    have e := sp_gs_s q (S.2 98) k
    have i0 : ∀ (x : Int32), ∀ l6 l7 : Option Value, sp_gs q (S.2 98) (k + 1) = sp_gs q (S.2 98) k → wp (h_Mo_gain - 1) y_Mo_gain 61 [some (.ref 91), some (.int o), some (.int w), some (.int (sp_gs q (S.2 98) k).1), some (.int (sp_gs q (S.2 98) k).2), some (.int (nI (k + 1 + 1))), l6, l7] [] S Q := fun _ l6 l7 g => by
      have := ih (k + 1) l6 l7 (by omega)
      rw [g] at this
      exact this
    refine wp_iload d_Mo_gain_61 rfl ?_
    refine wp_iconst (x := nI 1) d_Mo_gain_63 rfl ?_
    refine wp_aload_n d_Mo_gain_64 rfl rfl ?_
    refine wp_getR d_Mo_gain_65 ow_Mo_gain fl_8_7 (O_91 _) rfl ?_
    refine wp_iconst (x := nI 0) d_Mo_gain_68 rfl ?_
    refine wp_iaload d_Mo_gain_69 (A_92 _) (by omega) (by decide) ((congrFun C.1 0).trans hn.2) ?_
    refine wp_ishl d_Mo_gain_70 (i_shl hn.1) ?_
    refine wp_icN_ge (pc' := 146) d_Mo_gain_71 (by decide) (by omega) (by omega) (fun h71 => absurd h71 (by omega)) (fun h71 => ?_)
    refine wp_iconst (x := nI 0) d_Mo_gain_74 rfl ?_
    refine wp_isto6 d_Mo_gain_75 rfl ?_
    refine wp_iconst (x := nI 0) d_Mo_gain_77 rfl ?_
    refine wp_isto7 d_Mo_gain_78 rfl ?_
    refine m_ga_in C hw o w _ _ (k + 1) ?_ (sp_n q) 0 (Nat.zero_add _)
    letI := Classical.propDecidable (sp_itP q (S.2 98) (nI (k + 1)) (sp_n q))
    refine wp_iload d_Mo_gain_117 rfl ?_
    refine wp_iload d_Mo_gain_119 rfl ?_
    refine wp_ic_le (pc' := 140) d_Mo_gain_121 (by decide) (fun h121 => ?_) (fun h121 => ?_)
    · refine wp_iinc5 d_Mo_gain_140 rfl (nI_add _ 1) ?_
      refine wp_goto (pc' := 61) d_Mo_gain_143 (by decide) ?_
      first
      | (rw [sp_if_f (fun z => h130 z.2)] at e
         exact i0 0 _ _ e)
      | (rw [sp_if_f (fun z => absurd z.1 (Int32.not_lt.mpr h121))] at e
         exact i0 0 _ _ e)
      | (rw [sp_if_t ⟨Int32.not_le.mp h121, h130⟩] at e
         have := ih (k + 1) (some (.int (sp_ga q (nI (k + 1)) (sp_n q)))) (some (.int (nI (sp_n q)))) (by omega)
         rw [e] at this
         exact this)
    · refine wp_aload_n d_Mo_gain_124 rfl rfl ?_
      refine wp_iload d_Mo_gain_125 rfl ?_
      refine wp_invV d_Mo_gain_127 ow_Mo_gain lk_8_208 (by decide) mi_Mo_isInTime rfl rfl (Nat.le_of_ble_eq_true rfl) rfl (wp_isC (O_91 _)) (show h_Mo_isInTime ≤ _ from by decide) (m_isInTimeB C hw _ ?_)
      refine wp_Ki ?_
      refine wp_ifB_eq (pc' := 140) d_Mo_gain_130 (by decide) (fun h130 => ?_) (fun h130 => ?_)
      · refine wp_iinc5 d_Mo_gain_140 rfl (nI_add _ 1) ?_
        refine wp_goto (pc' := 61) d_Mo_gain_143 (by decide) ?_
        first
        | (rw [sp_if_f (fun z => h130 z.2)] at e
           exact i0 0 _ _ e)
        | (rw [sp_if_f (fun z => absurd z.1 (Int32.not_lt.mpr h121))] at e
           exact i0 0 _ _ e)
        | (rw [sp_if_t ⟨Int32.not_le.mp h121, h130⟩] at e
           have := ih (k + 1) (some (.int (sp_ga q (nI (k + 1)) (sp_n q)))) (some (.int (nI (sp_n q)))) (by omega)
           rw [e] at this
           exact this)
      · refine wp_iload d_Mo_gain_133 rfl ?_
        refine wp_iston3 d_Mo_gain_135 rfl ?_
        refine wp_iload d_Mo_gain_136 rfl ?_
        refine wp_isto4 d_Mo_gain_138 rfl ?_
        refine wp_iinc5 d_Mo_gain_140 rfl (nI_add _ 1) ?_
        refine wp_goto (pc' := 61) d_Mo_gain_143 (by decide) ?_
        first
        | (rw [sp_if_f (fun z => h130 z.2)] at e
           exact i0 0 _ _ e)
        | (rw [sp_if_f (fun z => absurd z.1 (Int32.not_lt.mpr h121))] at e
           exact i0 0 _ _ e)
        | (rw [sp_if_t ⟨Int32.not_le.mp h121, h130⟩] at e
           have := ih (k + 1) (some (.int (sp_ga q (nI (k + 1)) (sp_n q)))) (some (.int (nI (sp_n q)))) (by omega)
           rw [e] at this
           exact this)
theorem lf_gs {P : Int32 → Int32 → Prop} {a : Int32 × Int32} {b c : Int32} (e : a = (b, c)) (k : P a.1 a.2) : P b c := by subst e; exact k
theorem m_gn_loop (hw : sp_wf q) (w : Int32) (o : Nat) (ho : o < 4) (l4 l5 l6 l7 : Option Value) (K : ∀ S', mC S' q (-1) → (∀ j, j < sp_n q → S'.2 98 j = sp_gN q o j) → fr mY S S' → wp (h_Mo_gain - 1) y_Mo_gain 53 [some (.ref 91), some (.int (nI o)), some (.int w), some (.int (nI (sp_n q))), l4, l5, l6, l7] [] S' Q) : ∀ m k (S' : wp_S), k + m = sp_n q → mC S' q (-1) → (∀ j, j < k → S'.2 98 j = sp_gN q o j) → fr mY S S' → wp (h_Mo_gain - 1) y_Mo_gain 25 [some (.ref 91), some (.int (nI o)), some (.int w), some (.int (nI k)), l4, l5, l6, l7] [] S' Q := by
  have hn := hw.n
  intro m
  induction m with
  | zero =>
    intro k S' hk C h fS
    obtain rfl : k = sp_n q := by omega
    refine wp_iload_n d_Mo_gain_25 rfl rfl ?_
    refine wp_aload_n d_Mo_gain_26 rfl rfl ?_
    refine wp_getR d_Mo_gain_27 ow_Mo_gain fl_8_7 (O_91 _) rfl ?_
    refine wp_iconst (x := nI 0) d_Mo_gain_30 rfl ?_
    refine wp_iaload d_Mo_gain_31 (A_92 _) (by omega) (by decide) ((congrFun C.1 0).trans hn.2) ?_
    refine wp_icN_ge (pc' := 53) d_Mo_gain_32 (by decide) (by omega) (by omega) (fun h32 => ?_) (fun h32 => absurd h32 (by omega))
    exact K S' C h fS
  | succ m ih =>
    intro k S' hk C h fS
    refine wp_iload_n d_Mo_gain_25 rfl rfl ?_
    refine wp_aload_n d_Mo_gain_26 rfl rfl ?_
    refine wp_getR d_Mo_gain_27 ow_Mo_gain fl_8_7 (O_91 _) rfl ?_
    refine wp_iconst (x := nI 0) d_Mo_gain_30 rfl ?_
    refine wp_iaload d_Mo_gain_31 (A_92 _) (by omega) (by decide) ((congrFun C.1 0).trans hn.2) ?_
    refine wp_icN_ge (pc' := 53) d_Mo_gain_32 (by decide) (by omega) (by omega) (fun h32 => absurd h32 (by omega)) (fun h32 => ?_)
    refine wp_aload_n d_Mo_gain_35 rfl rfl ?_
    refine wp_getR d_Mo_gain_36 ow_Mo_gain fl_8_32 (O_91 _) rfl ?_
    refine wp_iload_n d_Mo_gain_39 rfl rfl ?_
    refine wp_aload_n d_Mo_gain_40 rfl rfl ?_
    refine wp_iload_n d_Mo_gain_41 rfl rfl ?_
    refine wp_iload_n d_Mo_gain_42 rfl rfl ?_
    refine wp_invV d_Mo_gain_43 ow_Mo_gain lk_8_201 (by decide) mi_Mo_neededOf rfl rfl (Nat.le_of_ble_eq_true rfl) rfl (wp_isC (O_91 _)) (show h_Mo_neededOf ≤ _ from by decide) (m_neededOf C hw o k ho (by omega) (fun S2 C2 f2 => ?_))
    refine wp_Ki ?_
    refine wp_iastore d_Mo_gain_46 (A_98 _) (by omega) (by decide) ?_
    refine wp_iinc3 d_Mo_gain_47 rfl (nI_add _ 1) ?_
    refine wp_goto (pc' := 25) d_Mo_gain_50 (by decide) ?_
    refine ih (k + 1) _ (by omega) (mC_o C2 (by decide) _ _) (fun j hj => ?_) ((fS.tr (fr_YN f2)).up (Or.inr (Or.inr (Or.inr (Or.inr (Or.inl rfl))))))
    rw [wp_u2]
    by_cases hjk : j = k
    · rw [if_pos ⟨rfl, hjk⟩, hjk]
      rfl
    · rw [if_neg (fun z => hjk z.2)]
      exact (f2.2 98 j (fun z => by unfold mN ps_D at z; omega)).trans (h j (by omega))
noncomputable def op_gain (q : sp_R) (o w : Int32) : sp_Out := sp_if (sp_isW o 3 ∧ sp_isW w 1) (0, sp_if (w = 0) (sp_gs q (sp_gN q o.toNatClampNeg) (2 ^ sp_n q - 1)).2 (sp_gs q (sp_gN q o.toNatClampNeg) (2 ^ sp_n q - 1)).1, q) (sp_bad q 1)
theorem m_gain (C : mC S q (-1)) (hw : sp_wf q) (o w : Int32) (K : mQ S (op_gain q o w) Q) : cl h_Mo_gain y_Mo_gain [.ref k_Mo, .int o, .int w] S Q := by
  have hn := hw.n
  have hp := i_pow hn.1
  unfold op_gain at K
  by_cases h : sp_isW o 3 ∧ sp_isW w 1
  · rw [sp_if_t h] at K
    obtain ⟨o', ho, rfl⟩ := (i_in (by decide)).mp h.1
    rw [nI_clamp (by omega)] at K
    refine cl_in ml_Mo_gain rfl rfl ?_
    refine wp_iload_n d_Mo_gain_0 rfl rfl ?_
    refine wp_invS d_Mo_gain_1 ow_Mo_gain lk_8_100 (by decide) mi_Mo_isOwner rfl rfl (Nat.le_of_ble_eq_true rfl) rfl (show h_Mo_isOwner ≤ _ from by decide) (m_isOwner _ ?_)
    refine wp_Ki ?_
    refine wp_ifB_eq (pc' := 16) d_Mo_gain_4 (by decide) (fun h4 => absurd h.1 h4) (fun h4 => ?_)
    refine wp_iload_n d_Mo_gain_7 rfl rfl ?_
    refine wp_iconst (x := nI 0) d_Mo_gain_8 rfl ?_
    refine wp_iconst (x := nI 1) d_Mo_gain_9 rfl ?_
    refine wp_invS d_Mo_gain_10 ow_Mo_gain lk_8_54 (by decide) mi_Mo_in rfl rfl (Nat.le_of_ble_eq_true rfl) rfl (show h_Mo_in ≤ _ from by decide) (m_in _ _ _ ?_)
    refine wp_Ki ?_
    refine wp_ifB_ne (pc' := 23) d_Mo_gain_13 (by decide) (fun h13 => ?_) (fun h13 => absurd h.2 h13)
    refine wp_iconst (x := nI 0) d_Mo_gain_23 rfl ?_
    refine wp_iston3 d_Mo_gain_24 rfl ?_
    refine m_gn_loop hw w o' (by omega) _ _ _ _ (fun S' C' h' f' => ?_) (sp_n q) 0 S (Nat.zero_add _) C (fun j hj => by omega) fr.rf
    refine wp_iconst (x := nI 0) d_Mo_gain_53 rfl ?_
    refine wp_iston3 d_Mo_gain_54 rfl ?_
    refine wp_iconst (x := nI 0) d_Mo_gain_55 rfl ?_
    refine wp_isto4 d_Mo_gain_56 rfl ?_
    refine wp_iconst (x := nI 1) d_Mo_gain_58 rfl ?_
    refine wp_isto5 d_Mo_gain_59 rfl ?_
    have e := sp_gs_c h' (2 ^ sp_n q - 1)
    refine lf_gs (P := fun b c => wp (h_Mo_gain - 1) y_Mo_gain 61 [some (.ref 91), some (.int (nI o')), some (.int w), some (.int b), some (.int c), some (.int (nI 1)), _, _] [] S' Q) (sp_gs_0 q (S'.2 98)) (m_ga_out C' hw (nI o') w (fun z => ?_) (fun z => ?_) (2 ^ sp_n q - 1) 0 _ _ (by omega))
    · rw [sp_if_t z, ← e] at K
      exact mQ_ok K C' f'
    · rw [sp_if_f z, ← e] at K
      exact mQ_ok K C' f'
  · rw [sp_if_f h] at K
    refine cl_in ml_Mo_gain rfl rfl ?_
    refine wp_iload_n d_Mo_gain_0 rfl rfl ?_
    refine wp_invS d_Mo_gain_1 ow_Mo_gain lk_8_100 (by decide) mi_Mo_isOwner rfl rfl (Nat.le_of_ble_eq_true rfl) rfl (show h_Mo_isOwner ≤ _ from by decide) (m_isOwner _ ?_)
    refine wp_Ki ?_
    refine wp_ifB_eq (pc' := 16) d_Mo_gain_4 (by decide) (fun h4 => ?_) (fun h4 => ?_)
    · refine wp_aload_n d_Mo_gain_16 rfl rfl ?_
      refine wp_ldc (v := .int (-1000000001)) d_Mo_gain_17 ow_Mo_gain (by decide +kernel) ?_
      refine wp_invV d_Mo_gain_19 ow_Mo_gain lk_8_59 (by decide) mi_Mo_errs rfl rfl (Nat.le_of_ble_eq_true rfl) rfl (wp_isC (O_91 _)) (show h_Mo_errs ≤ _ from by decide) (m_errs _ 1 (by decide) (by decide) ?_)
      refine wp_Ki ?_
      refine wp_reti d_Mo_gain_22 rt_Mo_gain ?_
      exact lf_i (by decide) (mQ_er (e := 1) K (by decide) C fr.rf)
    · refine wp_iload_n d_Mo_gain_7 rfl rfl ?_
      refine wp_iconst (x := nI 0) d_Mo_gain_8 rfl ?_
      refine wp_iconst (x := nI 1) d_Mo_gain_9 rfl ?_
      refine wp_invS d_Mo_gain_10 ow_Mo_gain lk_8_54 (by decide) mi_Mo_in rfl rfl (Nat.le_of_ble_eq_true rfl) rfl (show h_Mo_in ≤ _ from by decide) (m_in _ _ _ ?_)
      refine wp_Ki ?_
      refine wp_ifB_ne (pc' := 23) d_Mo_gain_13 (by decide) (fun h13 => absurd ⟨h4, h13⟩ h) (fun h13 => ?_)
      refine wp_aload_n d_Mo_gain_16 rfl rfl ?_
      refine wp_ldc (v := .int (-1000000001)) d_Mo_gain_17 ow_Mo_gain (by decide +kernel) ?_
      refine wp_invV d_Mo_gain_19 ow_Mo_gain lk_8_59 (by decide) mi_Mo_errs rfl rfl (Nat.le_of_ble_eq_true rfl) rfl (wp_isC (O_91 _)) (show h_Mo_errs ≤ _ from by decide) (m_errs _ 1 (by decide) (by decide) ?_)
      refine wp_Ki ?_
      refine wp_reti d_Mo_gain_22 rt_Mo_gain ?_
      exact lf_i (by decide) (mQ_er (e := 1) K (by decide) C fr.rf)
end OM
