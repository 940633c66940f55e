/-! the reference: count -/
def sp_co (q : sp_R) (t : Int32) (k : Nat) : Int32 := if k = 0 then q 0 else if k = 1 then q 1 else if k = 2 then q 2 else if k = 3 then sp_nb q (sp_n q) else if k = 4 then q 8 else if k = 5 then sp_ta q (sp_n q) else if k = 6 then q 4 else if k = 7 then q 5 else if k = 8 then t else q 3
section OB
variable {S : wp_S} {q : sp_R} {mu : Int32} {Q : Option Value → wp_S → Prop}
theorem m_co_loop (hw : sp_wf q) (v : Int32) (K : ∀ S' l4, mC S' q (-1) → fr ps_D S S' → wp (h_Mo_count - 1) y_Mo_count 50 [some (.ref 91), some (.int v), some (.int (sp_nb q (sp_n q))), some (.int (sp_ta q (sp_n q))), l4] [] S' Q) : ∀ m k (S' : wp_S), k + m = sp_n q → mC S' q (-1) → fr ps_D S S' → wp (h_Mo_count - 1) y_Mo_count 7 [some (.ref 91), some (.int v), some (.int (sp_nb q k)), some (.int (sp_ta q k)), some (.int (nI k))] [] S' Q := by
  have hn := hw.n
  intro m
  induction m with
  | zero =>
    intro k S' hk C f
    obtain rfl : k = sp_n q := by omega
    refine wp_iload d_Mo_count_7 rfl ?_
    refine wp_aload_n d_Mo_count_9 rfl rfl ?_
    refine wp_getR d_Mo_count_10 ow_Mo_count fl_8_7 (O_91 _) rfl ?_
    refine wp_iconst (x := nI 0) d_Mo_count_13 rfl ?_
    refine wp_iaload d_Mo_count_14 (A_92 _) (by omega) (by decide) ((congrFun C.1 0).trans hn.2) ?_
    refine wp_icN_ge (pc' := 50) d_Mo_count_15 (by decide) (by omega) (by omega) (fun h15 => ?_) (fun h15 => absurd h15 (by omega))
    exact K _ _ C f
  | succ m ih =>
    intro k S' hk C f
    have e1 : sp_nb q (k + 1) = sp_nb q k + (if sp_who q (-1) k < 0 then nI 1 else nI 0) := by rw [sp_nb]
    have e2 : sp_ta q (k + 1) = sp_ta q k + sp_all q k := by rw [sp_ta]
    have go : ∀ x y S2, mC S2 q (-1) → fr ps_D S' S2 → x = sp_nb q (k + 1) → y = sp_ta q (k + 1) → wp (h_Mo_count - 1) y_Mo_count 7 [some (.ref 91), some (.int v), some (.int x), some (.int y), some (.int (nI (k + 1)))] [] S2 Q := by
      intro x y S2 C2 f2 hx hy
      subst hx
      subst hy
      exact ih (k + 1) S2 (by omega) C2 (f.tr f2)
    refine wp_iload d_Mo_count_7 rfl ?_
    refine wp_aload_n d_Mo_count_9 rfl rfl ?_
    refine wp_getR d_Mo_count_10 ow_Mo_count fl_8_7 (O_91 _) rfl ?_
    refine wp_iconst (x := nI 0) d_Mo_count_13 rfl ?_
    refine wp_iaload d_Mo_count_14 (A_92 _) (by omega) (by decide) ((congrFun C.1 0).trans hn.2) ?_
    refine wp_icN_ge (pc' := 50) d_Mo_count_15 (by decide) (by omega) (by omega) (fun h15 => absurd h15 (by omega)) (fun h15 => ?_)
    refine wp_iload_n d_Mo_count_18 rfl rfl ?_
    refine wp_aload_n d_Mo_count_19 rfl rfl ?_
    refine wp_iload d_Mo_count_20 rfl ?_
    refine wp_invV d_Mo_count_22 ow_Mo_count lk_8_90 (by decide) mi_Mo_whose rfl rfl (Nat.le_of_ble_eq_true rfl) rfl (wp_isC (O_91 _)) (show h_Mo_whose ≤ _ from by decide) (m_whose C hw k (by omega) (fun S2 f2 => ?_))
    refine wp_Ki ?_
    refine wp_if_ge (pc' := 32) d_Mo_count_25 (by decide) (fun h25 => ?_) (fun h25 => ?_)
    · refine wp_iconst (x := nI 0) d_Mo_count_32 rfl ?_
      refine wp_iadd d_Mo_count_33 rfl ?_
      refine wp_iston2 d_Mo_count_34 rfl ?_
      refine wp_iload_n d_Mo_count_35 rfl rfl ?_
      refine wp_aload_n d_Mo_count_36 rfl rfl ?_
      refine wp_iload d_Mo_count_37 rfl ?_
      refine wp_invV d_Mo_count_39 ow_Mo_count lk_8_83 (by decide) mi_Mo_toldBy rfl rfl (Nat.le_of_ble_eq_true rfl) rfl (wp_isC (O_91 _)) (show h_Mo_toldBy ≤ _ from by decide) (m_toldBy (C.fr f2).1 k (by omega) ?_)
      refine wp_Ki ?_
      refine wp_iadd d_Mo_count_42 rfl ?_
      refine wp_iston3 d_Mo_count_43 rfl ?_
      refine wp_iinc4 d_Mo_count_44 rfl (nI_add _ 1) ?_
      refine wp_goto (pc' := 7) d_Mo_count_47 (by decide) ?_
      first
      | exact go _ _ _ (C.fr f2) f2 (by rw [e1, if_neg (Int32.not_lt.mpr h25)]) e2.symm
      | exact go _ _ _ (C.fr f2) f2 (by rw [e1, if_pos (Int32.not_le.mp h25)]) e2.symm
    · refine wp_iconst (x := nI 1) d_Mo_count_28 rfl ?_
      refine wp_goto (pc' := 33) d_Mo_count_29 (by decide) ?_
      refine wp_iadd d_Mo_count_33 rfl ?_
      refine wp_iston2 d_Mo_count_34 rfl ?_
      refine wp_iload_n d_Mo_count_35 rfl rfl ?_
      refine wp_aload_n d_Mo_count_36 rfl rfl ?_
      refine wp_iload d_Mo_count_37 rfl ?_
      refine wp_invV d_Mo_count_39 ow_Mo_count lk_8_83 (by decide) mi_Mo_toldBy rfl rfl (Nat.le_of_ble_eq_true rfl) rfl (wp_isC (O_91 _)) (show h_Mo_toldBy ≤ _ from by decide) (m_toldBy (C.fr f2).1 k (by omega) ?_)
      refine wp_Ki ?_
      refine wp_iadd d_Mo_count_42 rfl ?_
      refine wp_iston3 d_Mo_count_43 rfl ?_
      refine wp_iinc4 d_Mo_count_44 rfl (nI_add _ 1) ?_
      refine wp_goto (pc' := 7) d_Mo_count_47 (by decide) ?_
      first
      | exact go _ _ _ (C.fr f2) f2 (by rw [e1, if_neg (Int32.not_lt.mpr h25)]) e2.symm
      | exact go _ _ _ (C.fr f2) f2 (by rw [e1, if_pos (Int32.not_le.mp h25)]) e2.symm
noncomputable def op_count (q : sp_R) (t v : Int32) : sp_Out := sp_if (sp_isW v 9) (0, sp_co q t v.toNatClampNeg, q) (sp_bad q 1)
theorem m_count (C : mC S q (-1)) (hw : sp_wf q) (v : Int32) (K : mQ S (op_count q (S.2 91 24) v) Q) : cl h_Mo_count y_Mo_count [.ref k_Mo, .int v] S Q := by
  unfold op_count at K
  refine cl_in ml_Mo_count rfl rfl ?_
  refine wp_iconst (x := nI 0) d_Mo_count_0 rfl ?_
  refine wp_iston2 d_Mo_count_1 rfl ?_
  refine wp_iconst (x := nI 0) d_Mo_count_2 rfl ?_
  refine wp_iston3 d_Mo_count_3 rfl ?_
  refine wp_iconst (x := nI 0) d_Mo_count_4 rfl ?_
  refine wp_isto4 d_Mo_count_5 rfl ?_
  refine m_co_loop (S := S) hw v (fun S2 l4 C2 f2 => ?_) (sp_n q) 0 S (Nat.zero_add _) C fr.rf
  have e24 : S2.2 91 24 = S.2 91 24 := f2.2 91 24 (fun z => by unfold ps_D at z; omega)
  by_cases h : sp_isW v 9
  · rw [sp_if_t h] at K
    obtain ⟨k, hk, rfl⟩ := (i_in (by decide)).mp h
    rw [nI_clamp (by omega)] at K
    unfold sp_co at K
    clear h
    rcases (show k = 0 ∨ k = 1 ∨ k = 2 ∨ k = 3 ∨ k = 4 ∨ k = 5 ∨ k = 6 ∨ k = 7 ∨ k = 8 ∨ k = 9 by omega) with rfl | rfl | rfl | rfl | rfl | rfl | rfl | rfl | rfl | rfl
    · rw [if_pos rfl] at K
      refine wp_iload_n d_Mo_count_50 rfl rfl ?_
      refine wp_ts (pc' := 104) d_Mo_count_51 (by decide) rfl (by decide) ?_
      refine wp_aload_n d_Mo_count_104 rfl rfl ?_
      refine wp_getR d_Mo_count_105 ow_Mo_count fl_8_7 (O_91 _) rfl ?_
      refine wp_iconst (x := nI 0) d_Mo_count_108 rfl ?_
      refine wp_iaload d_Mo_count_109 (A_92 _) (by omega) (by decide) (congrFun C2.1 0) ?_
      refine wp_reti d_Mo_count_110 rt_Mo_count ?_
      exact mQ_ok K C2 (fr_YD f2)
    · rw [if_neg (by decide), if_pos rfl] at K
      refine wp_iload_n d_Mo_count_50 rfl rfl ?_
      refine wp_ts (pc' := 111) d_Mo_count_51 (by decide) rfl (by decide) ?_
      refine wp_aload_n d_Mo_count_111 rfl rfl ?_
      refine wp_getR d_Mo_count_112 ow_Mo_count fl_8_7 (O_91 _) rfl ?_
      refine wp_iconst (x := nI 1) d_Mo_count_115 rfl ?_
      refine wp_iaload d_Mo_count_116 (A_92 _) (by omega) (by decide) (congrFun C2.1 1) ?_
      refine wp_reti d_Mo_count_117 rt_Mo_count ?_
      exact mQ_ok K C2 (fr_YD f2)
    · rw [if_neg (by decide), if_neg (by decide), if_pos rfl] at K
      refine wp_iload_n d_Mo_count_50 rfl rfl ?_
      refine wp_ts (pc' := 118) d_Mo_count_51 (by decide) rfl (by decide) ?_
      refine wp_aload_n d_Mo_count_118 rfl rfl ?_
      refine wp_getR d_Mo_count_119 ow_Mo_count fl_8_7 (O_91 _) rfl ?_
      refine wp_iconst (x := nI 2) d_Mo_count_122 rfl ?_
      refine wp_iaload d_Mo_count_123 (A_92 _) (by omega) (by decide) (congrFun C2.1 2) ?_
      refine wp_reti d_Mo_count_124 rt_Mo_count ?_
      exact mQ_ok K C2 (fr_YD f2)
    · rw [if_neg (by decide), if_neg (by decide), if_neg (by decide), if_pos rfl] at K
      refine wp_iload_n d_Mo_count_50 rfl rfl ?_
      refine wp_ts (pc' := 125) d_Mo_count_51 (by decide) rfl (by decide) ?_
      refine wp_iload_n d_Mo_count_125 rfl rfl ?_
      refine wp_reti d_Mo_count_126 rt_Mo_count ?_
      exact mQ_ok K C2 (fr_YD f2)
    · rw [if_neg (by decide), if_neg (by decide), if_neg (by decide), if_neg (by decide), if_pos rfl] at K
      refine wp_iload_n d_Mo_count_50 rfl rfl ?_
      refine wp_ts (pc' := 127) d_Mo_count_51 (by decide) rfl (by decide) ?_
      refine wp_aload_n d_Mo_count_127 rfl rfl ?_
      refine wp_getR d_Mo_count_128 ow_Mo_count fl_8_7 (O_91 _) rfl ?_
      refine wp_bipush (x := nI 8) d_Mo_count_131 (by decide) ?_
      refine wp_iaload d_Mo_count_133 (A_92 _) (by omega) (by decide) (congrFun C2.1 8) ?_
      refine wp_reti d_Mo_count_134 rt_Mo_count ?_
      exact mQ_ok K C2 (fr_YD f2)
    · rw [if_neg (by decide), if_neg (by decide), if_neg (by decide), if_neg (by decide), if_neg (by decide), if_pos rfl] at K
      refine wp_iload_n d_Mo_count_50 rfl rfl ?_
      refine wp_ts (pc' := 135) d_Mo_count_51 (by decide) rfl (by decide) ?_
      refine wp_iload_n d_Mo_count_135 rfl rfl ?_
      refine wp_reti d_Mo_count_136 rt_Mo_count ?_
      exact mQ_ok K C2 (fr_YD f2)
    · rw [if_neg (by decide), if_neg (by decide), if_neg (by decide), if_neg (by decide), if_neg (by decide), if_neg (by decide), if_pos rfl] at K
      refine wp_iload_n d_Mo_count_50 rfl rfl ?_
      refine wp_ts (pc' := 137) d_Mo_count_51 (by decide) rfl (by decide) ?_
      refine wp_aload_n d_Mo_count_137 rfl rfl ?_
      refine wp_getR d_Mo_count_138 ow_Mo_count fl_8_7 (O_91 _) rfl ?_
      refine wp_iconst (x := nI 4) d_Mo_count_141 rfl ?_
      refine wp_iaload d_Mo_count_142 (A_92 _) (by omega) (by decide) (congrFun C2.1 4) ?_
      refine wp_reti d_Mo_count_143 rt_Mo_count ?_
      exact mQ_ok K C2 (fr_YD f2)
    · rw [if_neg (by decide), if_neg (by decide), if_neg (by decide), if_neg (by decide), if_neg (by decide), if_neg (by decide), if_neg (by decide), if_pos rfl] at K
      refine wp_iload_n d_Mo_count_50 rfl rfl ?_
      refine wp_ts (pc' := 144) d_Mo_count_51 (by decide) rfl (by decide) ?_
      refine wp_aload_n d_Mo_count_144 rfl rfl ?_
      refine wp_getR d_Mo_count_145 ow_Mo_count fl_8_7 (O_91 _) rfl ?_
      refine wp_iconst (x := nI 5) d_Mo_count_148 rfl ?_
      refine wp_iaload d_Mo_count_149 (A_92 _) (by omega) (by decide) (congrFun C2.1 5) ?_
      refine wp_reti d_Mo_count_150 rt_Mo_count ?_
      exact mQ_ok K C2 (fr_YD f2)
    · rw [if_neg (by decide), if_neg (by decide), if_neg (by decide), if_neg (by decide), if_neg (by decide), if_neg (by decide), if_neg (by decide), if_neg (by decide), if_pos rfl] at K
      refine wp_iload_n d_Mo_count_50 rfl rfl ?_
      refine wp_ts (pc' := 151) d_Mo_count_51 (by decide) rfl (by decide) ?_
      refine wp_aload_n d_Mo_count_151 rfl rfl ?_
      refine wp_getI d_Mo_count_152 ow_Mo_count fl_8_224 (O_91 _) rfl (e24) ?_
      refine wp_reti d_Mo_count_155 rt_Mo_count ?_
      exact mQ_ok K C2 (fr_YD f2)
    · rw [if_neg (by decide), if_neg (by decide), if_neg (by decide), if_neg (by decide), if_neg (by decide), if_neg (by decide), if_neg (by decide), if_neg (by decide), if_neg (by decide)] at K
      refine wp_iload_n d_Mo_count_50 rfl rfl ?_
      refine wp_ts (pc' := 156) d_Mo_count_51 (by decide) rfl (by decide) ?_
      refine wp_aload_n d_Mo_count_156 rfl rfl ?_
      refine wp_getR d_Mo_count_157 ow_Mo_count fl_8_7 (O_91 _) rfl ?_
      refine wp_iconst (x := nI 3) d_Mo_count_160 rfl ?_
      refine wp_iaload d_Mo_count_161 (A_92 _) (by omega) (by decide) (congrFun C2.1 3) ?_
      refine wp_reti d_Mo_count_162 rt_Mo_count ?_
      exact mQ_ok K C2 (fr_YD f2)
  · rw [sp_if_f h] at K
    refine wp_iload_n d_Mo_count_50 rfl rfl ?_
    refine wp_td (pc' := 163) d_Mo_count_51 ((by
      by_cases h0 : v.toInt < 0
      · exact Or.inl h0
      · by_cases h9 : 9 < v.toInt
        · exact Or.inr h9
        · exact absurd ⟨Int32.le_iff_toInt_le.mpr (by rw [show (0 : Int32).toInt = 0 from rfl]; omega), Int32.le_iff_toInt_le.mpr (by rw [nI_toInt (by decide)]; omega)⟩ h)) (by decide) ?_
    refine wp_aload_n d_Mo_count_163 rfl rfl ?_
    refine wp_ldc (v := .int (-1000000001)) d_Mo_count_164 ow_Mo_count (by decide +kernel) ?_
    refine wp_invV d_Mo_count_166 ow_Mo_count lk_8_59 (by decide) mi_Mo_errs rfl rfl (Nat.le_of_ble_eq_true rfl) rfl (wp_isC (O_91 _)) (show h_Mo_errs ≤ _ from by decide) (m_errs _ 1 (by decide) (by decide) ?_)
    refine wp_Ki ?_
    refine wp_reti d_Mo_count_169 rt_Mo_count ?_
    exact lf_i (by decide) (mQ_er (e := 1) K (by decide) C2 (fr_YD f2))
end OB
