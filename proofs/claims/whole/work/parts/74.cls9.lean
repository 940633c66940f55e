/-! the class: the set of most acres -/
theorem sp_b_01 (x : Int32) (k : Nat) : sp_b x k = nI 0 ∨ sp_b x k = nI 1 := by
  unfold sp_b
  generalize x >>> (nI k &&& 31) = y
  have h := Jvm.Kit.i32_mask y (nI 1) (k := 1) (by decide) (by decide)
  have h0 : (nI 0).toInt = 0 := by decide
  have h1 : (nI 1).toInt = 1 := by decide
  rcases (show (y &&& nI 1).toInt = 0 ∨ (y &&& nI 1).toInt = 1 by omega) with e | e
  · exact Or.inl (Int32.toInt_inj.mp (by omega))
  · exact Or.inr (Int32.toInt_inj.mp (by omega))
theorem sp_ga_n {q : sp_R} (hw : sp_wf q) (x : Int32) : ∀ k, k ≤ sp_n q → ∃ a, a ≤ 99 * k ∧ sp_ga q x k = nI a
  | 0, _ => ⟨0, Nat.zero_le _, rfl⟩
  | k + 1, hk => by
    obtain ⟨a, ha, e⟩ := sp_ga_n hw x k (by omega)
    obtain ⟨b, hb1, hb2, eb⟩ := (hw.f (show k < sp_n q by omega)).2.2.1
    have eb : q (13 + 10 * k + 2) = nI b := eb
    rw [sp_ga_s, e, eb]
    rcases sp_b_01 x k with h | h
    · rw [h, show nI 0 * nI b = nI 0 from Int32.zero_mul, i_a0]
      exact ⟨a, by omega, rfl⟩
    · rw [h, show nI 1 * nI b = nI b from Int32.one_mul _, nI_add]
      exact ⟨a + b, by omega, rfl⟩
theorem sp_itP_0 (q nd : sp_R) (n : Nat) : sp_itP q nd (nI 0) n := fun j hj hb => by
  exfalso
  unfold sp_b at hb
  have h := Jvm.Kit.i32_mask (nI 0 >>> (nI j &&& 31)) (nI 1) (k := 1) (by decide) (by decide)
  rw [hb] at h
  have h1 : (nI 1).toInt = 1 := by decide
  have h2 : nI 0 >>> (nI j &&& 31) = nI 0 := Int32.zero_shiftRight
  rw [h2] at h
  have h0 : (nI 0).toInt = 0 := by decide
  omega
theorem sp_ga_0 (q : sp_R) : ∀ k, sp_ga q (nI 0) k = nI 0
  | 0 => rfl
  | k + 1 => by
    rw [sp_ga_s, sp_ga_0 q k]
    have : sp_b (nI 0) k = nI 0 := by
      rcases sp_b_01 (nI 0) k with h | h
      · exact h
      · exact absurd h (fun z => absurd (sp_itP_0 q (fun _ => nI 10) (k + 1) k (by omega) z).1 (show ¬ nI 10 < nI 10 by decide))
    rw [this, show nI 0 * q (13 + 10 * k + 2) = nI 0 from Int32.zero_mul, i_a0]
theorem sp_gs_inv {q nd : sp_R} (hw : sp_wf q) : ∀ k, sp_itP q nd (sp_gs q nd k).1 (sp_n q) ∧ (sp_gs q nd k).2 = sp_ga q (sp_gs q nd k).1 (sp_n q)
  | 0 => by
    rw [sp_gs_0]
    exact ⟨sp_itP_0 q nd _, (sp_ga_0 q _).symm⟩
  | k + 1 => by
    rw [sp_gs_s]
    by_cases h : (sp_gs q nd k).2 < sp_ga q (nI (k + 1)) (sp_n q) ∧ sp_itP q nd (nI (k + 1)) (sp_n q)
    · rw [sp_if_t h]
      exact ⟨h.2, rfl⟩
    · rw [sp_if_f h]
      exact sp_gs_inv hw k
section CJ
variable {S : wp_S} {q : sp_R} {mu : Int32} {Q : Option Value → wp_S → Prop}
theorem c_ab_loop (C : CL S q) (hw : sp_wf q) (o : Nat) (hN : ∀ j, j < sp_n q → S.2 69 j = sp_lt q o j) (x : Int32) (K1 : sp_itP q (sp_gN q o) x (sp_n q) → Q (some (.int (sp_ga q x (sp_n q)))) S) (K0 : ¬ sp_itP q (sp_gN q o) x (sp_n q) → Q (some (.int (-1))) S) : ∀ m k (l6 : Option Value), k + m = sp_n q → sp_itP q (sp_gN q o) x k → wp (h_Th_acresBy - 1) y_Th_acresBy 10 [some (.ref 67), some (.int x), some (.int (sp_ga q x k)), some (.int (sp_ns (sp_gN q o) x k)), some (.int (sp_cb (nI k * q 8) q k)), some (.int (nI k)), l6] [] S Q := by
  have hn := hw.n
  intro m
  induction m with
  | zero =>
    intro k l6 hk hP
    obtain rfl : k = sp_n q := by omega
    refine wp_iload d_Th_acresBy_10 rfl ?_
    refine wp_aload_n d_Th_acresBy_12 rfl rfl ?_
    refine wp_getR d_Th_acresBy_13 ow_Th_acresBy fl_5_31 (O_67 _) rfl ?_
    refine wp_getI d_Th_acresBy_16 ow_Th_acresBy fl_5_54 (O_1 _) rfl (C.n.trans hn.2) ?_
    refine wp_icN_ge (pc' := 107) d_Th_acresBy_19 (by decide) (by omega) (by omega) (fun h19 => ?_) (fun h19 => absurd h19 (by omega))
    refine wp_iload_n d_Th_acresBy_107 rfl rfl ?_
    refine wp_reti d_Th_acresBy_108 rt_Th_acresBy ?_
    exact K1 hP
  | succ m ih =>
    intro k l6 hk hP
    have eg := sp_ga_s q x k
    have es := sp_ns_s (sp_gN q o) x k
    have ec := sp_cb_s q k
    have ih := fun l6 => ih (k + 1) l6 (by omega)
    rcases sp_b_01 x k with hb | hb
    · have ne : ¬ sp_b x k = nI 1 := by rw [hb]; decide
      rw [hb, show nI 0 * q (13 + 10 * k + 2) = nI 0 from Int32.zero_mul, i_a0] at eg
      rw [if_neg ne] at es
      rw [eg, es] at ih
      have ih := fun l6 => ih l6 (fun j hj hbj => by
        rcases Nat.lt_or_ge j k with h | h
        · exact hP j h hbj
        · exact absurd (show sp_b x k = nI 1 from (show j = k by omega) ▸ hbj) ne)
      refine wp_iload d_Th_acresBy_10 rfl ?_
      refine wp_aload_n d_Th_acresBy_12 rfl rfl ?_
      refine wp_getR d_Th_acresBy_13 ow_Th_acresBy fl_5_31 (O_67 _) rfl ?_
      refine wp_getI d_Th_acresBy_16 ow_Th_acresBy fl_5_54 (O_1 _) rfl (C.n.trans hn.2) ?_
      refine wp_icN_ge (pc' := 107) d_Th_acresBy_19 (by decide) (by omega) (by omega) (fun h19 => absurd h19 (by omega)) (fun h19 => ?_)
      refine wp_aload_n d_Th_acresBy_22 rfl rfl ?_
      refine wp_getR d_Th_acresBy_23 ow_Th_acresBy fl_5_31 (O_67 _) rfl ?_
      refine wp_getR d_Th_acresBy_26 ow_Th_acresBy fl_5_38 (O_1 _) rfl ?_
      refine wp_iload d_Th_acresBy_29 rfl ?_
      refine wp_aaload d_Th_acresBy_31 rfl (f_F (by omega)) (by decide) ?_
      refine wp_asto6 d_Th_acresBy_32 rfl ?_
      refine wp_iload d_Th_acresBy_34 rfl ?_
      refine wp_aload_n d_Th_acresBy_36 rfl rfl ?_
      refine wp_getR d_Th_acresBy_37 ow_Th_acresBy fl_5_31 (O_67 _) rfl ?_
      refine wp_getI d_Th_acresBy_40 ow_Th_acresBy fl_5_64 (O_1 _) rfl (C.sc 8 (by decide) (by decide) (by decide)) ?_
      refine wp_aload d_Th_acresBy_43 rfl ?_
      refine wp_getI d_Th_acresBy_45 ow_Th_acresBy fl_5_67 (O_F _ (by omega)) rfl (C.f (by omega) (w := 3) (by decide)) ?_
      refine wp_iadd d_Th_acresBy_48 rfl ?_
      refine wp_iadd d_Th_acresBy_49 (ec.symm) ?_
      refine wp_isto4 d_Th_acresBy_50 rfl ?_
      refine wp_iload_n d_Th_acresBy_52 rfl rfl ?_
      refine wp_iload d_Th_acresBy_53 rfl ?_
      refine wp_ishr d_Th_acresBy_55 rfl ?_
      refine wp_iconst (x := nI 1) d_Th_acresBy_56 rfl ?_
      refine wp_iand d_Th_acresBy_57 ((rfl : _ = sp_b x k)) ?_
      refine wp_iconst (x := nI 1) d_Th_acresBy_58 rfl ?_
      refine wp_ic_ne (pc' := 101) d_Th_acresBy_59 (by decide) (fun h59 => ?_) (fun h59 => absurd h59 ne)
      refine wp_iinc5 d_Th_acresBy_101 rfl (nI_add _ 1) ?_
      refine wp_goto (pc' := 10) d_Th_acresBy_104 (by decide) ?_
      exact ih _
    · rw [hb, show nI 1 * q (13 + 10 * k + 2) = q (13 + 10 * k + 2) from Int32.one_mul _] at eg
      rw [if_pos hb] at es
      by_cases h9 : sp_nf o k 10 q 0 ≤ 9
      · have el : sp_lt q o k = sp_gN q o k := sp_if_t h9
        have e69 : S.2 69 k = sp_gN q o k := (hN k (by omega)).trans el
        have g9 : sp_gN q o k < nI 10 := (nI_ltI (by omega) (by decide)).mpr (by omega)
        have g0 : ¬ sp_gN q o k < 0 := nI_pos (by omega)
        have ih := fun l6 h => ih l6 (fun j hj hbj => by
          rcases Nat.lt_or_ge j k with h' | h'
          · exact hP j h' hbj
          · obtain rfl : j = k := (by omega)
            exact ⟨g9, h⟩)
        have no : ¬ (nI k + sp_ns (sp_gN q o) x (k + 1) ≤ sp_coach q k) → ¬ sp_itP q (sp_gN q o) x (sp_n q) := fun a z => a (z k (by omega) hb).2
        unfold sp_coach at ih no
        refine wp_iload d_Th_acresBy_10 rfl ?_
        refine wp_aload_n d_Th_acresBy_12 rfl rfl ?_
        refine wp_getR d_Th_acresBy_13 ow_Th_acresBy fl_5_31 (O_67 _) rfl ?_
        refine wp_getI d_Th_acresBy_16 ow_Th_acresBy fl_5_54 (O_1 _) rfl (C.n.trans hn.2) ?_
        refine wp_icN_ge (pc' := 107) d_Th_acresBy_19 (by decide) (by omega) (by omega) (fun h19 => absurd h19 (by omega)) (fun h19 => ?_)
        refine wp_aload_n d_Th_acresBy_22 rfl rfl ?_
        refine wp_getR d_Th_acresBy_23 ow_Th_acresBy fl_5_31 (O_67 _) rfl ?_
        refine wp_getR d_Th_acresBy_26 ow_Th_acresBy fl_5_38 (O_1 _) rfl ?_
        refine wp_iload d_Th_acresBy_29 rfl ?_
        refine wp_aaload d_Th_acresBy_31 rfl (f_F (by omega)) (by decide) ?_
        refine wp_asto6 d_Th_acresBy_32 rfl ?_
        refine wp_iload d_Th_acresBy_34 rfl ?_
        refine wp_aload_n d_Th_acresBy_36 rfl rfl ?_
        refine wp_getR d_Th_acresBy_37 ow_Th_acresBy fl_5_31 (O_67 _) rfl ?_
        refine wp_getI d_Th_acresBy_40 ow_Th_acresBy fl_5_64 (O_1 _) rfl (C.sc 8 (by decide) (by decide) (by decide)) ?_
        refine wp_aload d_Th_acresBy_43 rfl ?_
        refine wp_getI d_Th_acresBy_45 ow_Th_acresBy fl_5_67 (O_F _ (by omega)) rfl (C.f (by omega) (w := 3) (by decide)) ?_
        refine wp_iadd d_Th_acresBy_48 rfl ?_
        refine wp_iadd d_Th_acresBy_49 (ec.symm) ?_
        refine wp_isto4 d_Th_acresBy_50 rfl ?_
        refine wp_iload_n d_Th_acresBy_52 rfl rfl ?_
        refine wp_iload d_Th_acresBy_53 rfl ?_
        refine wp_ishr d_Th_acresBy_55 rfl ?_
        refine wp_iconst (x := nI 1) d_Th_acresBy_56 rfl ?_
        refine wp_iand d_Th_acresBy_57 ((rfl : _ = sp_b x k)) ?_
        refine wp_iconst (x := nI 1) d_Th_acresBy_58 rfl ?_
        refine wp_ic_ne (pc' := 101) d_Th_acresBy_59 (by decide) (fun h59 => absurd hb h59) (fun h59 => ?_)
        refine wp_iload_n d_Th_acresBy_62 rfl rfl ?_
        refine wp_aload_n d_Th_acresBy_63 rfl rfl ?_
        refine wp_getR d_Th_acresBy_64 ow_Th_acresBy fl_5_24 (O_67 _) rfl ?_
        refine wp_iload d_Th_acresBy_67 rfl ?_
        refine wp_iaload d_Th_acresBy_69 (A_69 _) (by omega) (by decide) (e69) ?_
        refine wp_iadd d_Th_acresBy_70 (es.symm) ?_
        refine wp_iston3 d_Th_acresBy_71 rfl ?_
        refine wp_iload_n d_Th_acresBy_72 rfl rfl ?_
        refine wp_aload d_Th_acresBy_73 rfl ?_
        refine wp_getI d_Th_acresBy_75 ow_Th_acresBy fl_5_70 (O_F _ (by omega)) rfl (C.f (by omega) (w := 2) (by decide)) ?_
        refine wp_iadd d_Th_acresBy_78 (eg.symm) ?_
        refine wp_iston2 d_Th_acresBy_79 rfl ?_
        refine wp_aload_n d_Th_acresBy_80 rfl rfl ?_
        refine wp_getR d_Th_acresBy_81 ow_Th_acresBy fl_5_24 (O_67 _) rfl ?_
        refine wp_iload d_Th_acresBy_84 rfl ?_
        refine wp_iaload d_Th_acresBy_86 (A_69 _) (by omega) (by decide) (e69) ?_
        refine wp_if_lt (pc' := 99) d_Th_acresBy_87 (by decide) (fun h87 => absurd h87 g0) (fun h87 => ?_)
        refine wp_iload d_Th_acresBy_90 rfl ?_
        refine wp_iload_n d_Th_acresBy_92 rfl rfl ?_
        refine wp_iadd d_Th_acresBy_93 rfl ?_
        refine wp_iload d_Th_acresBy_94 rfl ?_
        refine wp_ic_le (pc' := 101) d_Th_acresBy_96 (by decide) (fun h96 => ?_) (fun h96 => ?_)
        · refine wp_iinc5 d_Th_acresBy_101 rfl (nI_add _ 1) ?_
          refine wp_goto (pc' := 10) d_Th_acresBy_104 (by decide) ?_
          exact ih _ h96
        · refine wp_iconst (x := -1) d_Th_acresBy_99 rfl ?_
          refine wp_reti d_Th_acresBy_100 rt_Th_acresBy ?_
          exact K0 (no h96)
      · have el : S.2 69 k = -1 := (hN k (by omega)).trans (sp_if_f h9)
        have no : ¬ sp_itP q (sp_gN q o) x (sp_n q) := fun z => by
          have := (z k (by omega) hb).1
          have g := (nI_ltI (by have := sp_nf_le o k 10 q 0; omega) (by decide)).mp this
          omega
        refine wp_iload d_Th_acresBy_10 rfl ?_
        refine wp_aload_n d_Th_acresBy_12 rfl rfl ?_
        refine wp_getR d_Th_acresBy_13 ow_Th_acresBy fl_5_31 (O_67 _) rfl ?_
        refine wp_getI d_Th_acresBy_16 ow_Th_acresBy fl_5_54 (O_1 _) rfl (C.n.trans hn.2) ?_
        refine wp_icN_ge (pc' := 107) d_Th_acresBy_19 (by decide) (by omega) (by omega) (fun h19 => absurd h19 (by omega)) (fun h19 => ?_)
        refine wp_aload_n d_Th_acresBy_22 rfl rfl ?_
        refine wp_getR d_Th_acresBy_23 ow_Th_acresBy fl_5_31 (O_67 _) rfl ?_
        refine wp_getR d_Th_acresBy_26 ow_Th_acresBy fl_5_38 (O_1 _) rfl ?_
        refine wp_iload d_Th_acresBy_29 rfl ?_
        refine wp_aaload d_Th_acresBy_31 rfl (f_F (by omega)) (by decide) ?_
        refine wp_asto6 d_Th_acresBy_32 rfl ?_
        refine wp_iload d_Th_acresBy_34 rfl ?_
        refine wp_aload_n d_Th_acresBy_36 rfl rfl ?_
        refine wp_getR d_Th_acresBy_37 ow_Th_acresBy fl_5_31 (O_67 _) rfl ?_
        refine wp_getI d_Th_acresBy_40 ow_Th_acresBy fl_5_64 (O_1 _) rfl (C.sc 8 (by decide) (by decide) (by decide)) ?_
        refine wp_aload d_Th_acresBy_43 rfl ?_
        refine wp_getI d_Th_acresBy_45 ow_Th_acresBy fl_5_67 (O_F _ (by omega)) rfl (C.f (by omega) (w := 3) (by decide)) ?_
        refine wp_iadd d_Th_acresBy_48 rfl ?_
        refine wp_iadd d_Th_acresBy_49 rfl ?_
        refine wp_isto4 d_Th_acresBy_50 rfl ?_
        refine wp_iload_n d_Th_acresBy_52 rfl rfl ?_
        refine wp_iload d_Th_acresBy_53 rfl ?_
        refine wp_ishr d_Th_acresBy_55 rfl ?_
        refine wp_iconst (x := nI 1) d_Th_acresBy_56 rfl ?_
        refine wp_iand d_Th_acresBy_57 ((rfl : _ = sp_b x k)) ?_
        refine wp_iconst (x := nI 1) d_Th_acresBy_58 rfl ?_
        refine wp_ic_ne (pc' := 101) d_Th_acresBy_59 (by decide) (fun h59 => absurd hb h59) (fun h59 => ?_)
        refine wp_iload_n d_Th_acresBy_62 rfl rfl ?_
        refine wp_aload_n d_Th_acresBy_63 rfl rfl ?_
        refine wp_getR d_Th_acresBy_64 ow_Th_acresBy fl_5_24 (O_67 _) rfl ?_
        refine wp_iload d_Th_acresBy_67 rfl ?_
        refine wp_iaload d_Th_acresBy_69 (A_69 _) (by omega) (by decide) (rfl) ?_
        refine wp_iadd d_Th_acresBy_70 rfl ?_
        refine wp_iston3 d_Th_acresBy_71 rfl ?_
        refine wp_iload_n d_Th_acresBy_72 rfl rfl ?_
        refine wp_aload d_Th_acresBy_73 rfl ?_
        refine wp_getI d_Th_acresBy_75 ow_Th_acresBy fl_5_70 (O_F _ (by omega)) rfl (rfl) ?_
        refine wp_iadd d_Th_acresBy_78 rfl ?_
        refine wp_iston2 d_Th_acresBy_79 rfl ?_
        refine wp_aload_n d_Th_acresBy_80 rfl rfl ?_
        refine wp_getR d_Th_acresBy_81 ow_Th_acresBy fl_5_24 (O_67 _) rfl ?_
        refine wp_iload d_Th_acresBy_84 rfl ?_
        refine wp_iaload d_Th_acresBy_86 (A_69 _) (by omega) (by decide) (el) ?_
        refine wp_if_lt (pc' := 99) d_Th_acresBy_87 (by decide) (fun h87 => ?_) (fun h87 => absurd (show (-1 : Int32) < 0 from by decide) h87)
        refine wp_iconst (x := -1) d_Th_acresBy_99 rfl ?_
        refine wp_reti d_Th_acresBy_100 rt_Th_acresBy ?_
        exact K0 no
theorem c_acresBy (C : CL S q) (hw : sp_wf q) (o : Nat) (hN : ∀ j, j < sp_n q → S.2 69 j = sp_lt q o j) (x : Int32) (K1 : sp_itP q (sp_gN q o) x (sp_n q) → Q (some (.int (sp_ga q x (sp_n q)))) S) (K0 : ¬ sp_itP q (sp_gN q o) x (sp_n q) → Q (some (.int (-1))) S) : cl h_Th_acresBy y_Th_acresBy [.ref 67, .int x] S Q := by
  have st := fun l6 => c_ab_loop C hw o hN x K1 K0 (sp_n q) 0 l6 (Nat.zero_add _) (fun j hj => by omega)
  rw [sp_cb_0] at st
  refine cl_in ml_Th_acresBy rfl rfl ?_
  refine wp_iconst (x := nI 0) d_Th_acresBy_0 rfl ?_
  refine wp_iston2 d_Th_acresBy_1 rfl ?_
  refine wp_iconst (x := nI 0) d_Th_acresBy_2 rfl ?_
  refine wp_iston3 d_Th_acresBy_3 rfl ?_
  refine wp_iconst (x := nI 0) d_Th_acresBy_4 rfl ?_
  refine wp_isto4 d_Th_acresBy_5 rfl ?_
  refine wp_iconst (x := nI 0) d_Th_acresBy_7 rfl ?_
  refine wp_isto5 d_Th_acresBy_8 rfl ?_
  exact st _
theorem c_bs_1 (hw : sp_wf q) {o : Nat} (ho : o < 4) (l3 l4 l5 : Option Value) (K : ∀ S', CL S' q → (∀ j, j < sp_n q → S'.2 69 j = sp_lt q o j) → fr cY S S' → wp (h_Th_bestSet - 1) y_Th_bestSet 31 [some (.ref 67), some (.int (nI o)), some (.int (nI (sp_n q))), l3, l4, l5] [] S' Q) : ∀ m k (S' : wp_S), k + m = sp_n q → CL S' q → (∀ j, j < k → S'.2 69 j = sp_lt q o j) → fr cY S S' → wp (h_Th_bestSet - 1) y_Th_bestSet 2 [some (.ref 67), some (.int (nI o)), some (.int (nI k)), l3, l4, l5] [] S' Q := by
  have hn := hw.n
  intro m
  induction m with
  | zero =>
    intro k S' hk C h fS
    obtain rfl : k = sp_n q := by omega
    refine wp_iload_n d_Th_bestSet_2 rfl rfl ?_
    refine wp_aload_n d_Th_bestSet_3 rfl rfl ?_
    refine wp_getR d_Th_bestSet_4 ow_Th_bestSet fl_5_31 (O_67 _) rfl ?_
    refine wp_getI d_Th_bestSet_7 ow_Th_bestSet fl_5_54 (O_1 _) rfl (C.n.trans hn.2) ?_
    refine wp_icN_ge (pc' := 31) d_Th_bestSet_10 (by decide) (by omega) (by omega) (fun h10 => ?_) (fun h10 => absurd h10 (by omega))
    exact K S' C h fS
  | succ m ih =>
    intro k S' hk C h fS
    refine wp_iload_n d_Th_bestSet_2 rfl rfl ?_
    refine wp_aload_n d_Th_bestSet_3 rfl rfl ?_
    refine wp_getR d_Th_bestSet_4 ow_Th_bestSet fl_5_31 (O_67 _) rfl ?_
    refine wp_getI d_Th_bestSet_7 ow_Th_bestSet fl_5_54 (O_1 _) rfl (C.n.trans hn.2) ?_
    refine wp_icN_ge (pc' := 31) d_Th_bestSet_10 (by decide) (by omega) (by omega) (fun h10 => absurd h10 (by omega)) (fun h10 => ?_)
    refine wp_aload_n d_Th_bestSet_13 rfl rfl ?_
    refine wp_getR d_Th_bestSet_14 ow_Th_bestSet fl_5_24 (O_67 _) rfl ?_
    refine wp_iload_n d_Th_bestSet_17 rfl rfl ?_
    refine wp_aload_n d_Th_bestSet_18 rfl rfl ?_
    refine wp_iload_n d_Th_bestSet_19 rfl rfl ?_
    refine wp_iload_n d_Th_bestSet_20 rfl rfl ?_
    refine wp_invV d_Th_bestSet_21 ow_Th_bestSet lk_5_57 (by decide) mi_Th_leastTellings rfl rfl (Nat.le_of_ble_eq_true rfl) rfl (wp_isC (O_67 _)) (show h_Th_leastTellings ≤ _ from by decide) (c_leastTellings C hw ho (show k < sp_n q by omega) (fun S2 C2 f2 => ?_))
    refine wp_Ki ?_
    refine wp_iastore d_Th_bestSet_24 (A_69 _) (by omega) (by decide) ?_
    refine wp_iinc2 d_Th_bestSet_25 rfl (nI_add _ 1) ?_
    refine wp_goto (pc' := 2) d_Th_bestSet_28 (by decide) ?_
    refine ih (k + 1) _ (by omega) (C2.fr (fun a b z => wp_un (fun y => z (by unfold cW; omega)))) (fun j hj => ?_) ((fS.tr (fr_YT (by decide) f2)).up (Or.inr ⟨by decide, by decide⟩))
    rw [wp_u2]
    by_cases hjk : j = k
    · rw [if_pos ⟨rfl, hjk⟩, hjk]
    · rw [if_neg (fun z => hjk z.2)]
      exact (f2.2 69 j (fun z => by unfold cTl at z; omega)).trans (h j (by omega))
theorem c_bs_2 (C : CL S q) (hw : sp_wf q) {o : Nat} (hN : ∀ j, j < sp_n q → S.2 69 j = sp_lt q o j) (K : Q (some (.int (sp_gs q (sp_gN q o) (2 ^ sp_n q - 1)).1)) S) : ∀ m k (l5 : Option Value), k + 1 + m = 2 ^ sp_n q → wp (h_Th_bestSet - 1) y_Th_bestSet 38 [some (.ref 67), some (.int (nI o)), some (.int (sp_gs q (sp_gN q o) k).1), some (.int (sp_gs q (sp_gN q o) k).2), some (.int (nI (k + 1))), l5] [] S Q := by
  have hn := hw.n
  have hp := i_pow hn.1
  intro m
  induction m with
  | zero =>
    intro k l5 hk
    rw [show 2 ^ sp_n q - 1 = k by omega] at K
    refine wp_iload d_Th_bestSet_38 rfl ?_
    refine wp_iconst (x := nI 1) d_Th_bestSet_40 rfl ?_
    refine wp_aload_n d_Th_bestSet_41 rfl rfl ?_
    refine wp_getR d_Th_bestSet_42 ow_Th_bestSet fl_5_31 (O_67 _) rfl ?_
    refine wp_getI d_Th_bestSet_45 ow_Th_bestSet fl_5_54 (O_1 _) rfl (C.n.trans hn.2) ?_
    refine wp_ishl d_Th_bestSet_48 (i_shl hn.1) ?_
    refine wp_icN_ge (pc' := 78) d_Th_bestSet_49 (by decide) (by omega) (by omega) (fun h49 => ?_) (fun h49 => absurd h49 (by omega))
    refine wp_iload_n d_Th_bestSet_78 rfl rfl ?_
    refine wp_reti d_Th_bestSet_79 rt_Th_bestSet ?_
    exact K
  | succ m ih =>
    intro k l5 hk
    have e := sp_gs_s q (sp_gN q o) k
    have gi := (sp_gs_inv (nd := sp_gN q o) hw k).2
    obtain ⟨a, ha, ea⟩ := sp_ga_n hw (sp_gs q (sp_gN q o) k).1 (sp_n q) (Nat.le_refl _)
    have g0 : ¬ (sp_gs q (sp_gN q o) k).2 < 0 := by rw [gi, ea]; exact nI_pos (by omega)
    have IH : ∀ r, sp_gs q (sp_gN q o) (k + 1) = r → ∀ l5 : Option Value, wp (h_Th_bestSet - 1) y_Th_bestSet 38 [some (.ref 67), some (.int (nI o)), some (.int r.1), some (.int r.2), some (.int (nI (k + 1 + 1))), l5] [] S Q := fun r hr l5 => by
      subst hr
      exact ih (k + 1) l5 (by omega)
    clear ih
    generalize sp_gs q (sp_gN q o) k = rr at *
    refine wp_iload d_Th_bestSet_38 rfl ?_
    refine wp_iconst (x := nI 1) d_Th_bestSet_40 rfl ?_
    refine wp_aload_n d_Th_bestSet_41 rfl rfl ?_
    refine wp_getR d_Th_bestSet_42 ow_Th_bestSet fl_5_31 (O_67 _) rfl ?_
    refine wp_getI d_Th_bestSet_45 ow_Th_bestSet fl_5_54 (O_1 _) rfl (C.n.trans hn.2) ?_
    refine wp_ishl d_Th_bestSet_48 (i_shl hn.1) ?_
    refine wp_icN_ge (pc' := 78) d_Th_bestSet_49 (by decide) (by omega) (by omega) (fun h49 => absurd h49 (by omega)) (fun h49 => ?_)
    refine wp_aload_n d_Th_bestSet_52 rfl rfl ?_
    refine wp_iload d_Th_bestSet_53 rfl ?_
    refine wp_invV d_Th_bestSet_55 ow_Th_bestSet lk_5_60 (by decide) mi_Th_acresBy rfl rfl (Nat.le_of_ble_eq_true rfl) rfl (wp_isC (O_67 _)) (show h_Th_acresBy ≤ _ from by decide) (c_acresBy C hw o hN (nI (k + 1)) (fun z => ?_) (fun z => ?_))
    · refine wp_Ki ?_
      have a1 : sp_ga q (nI (k + 1)) (sp_n q) ≤ rr.2 → sp_gs q (sp_gN q o) (k + 1) = rr := fun h => e.trans (sp_if_f (fun y => absurd y.1 (Int32.not_lt.mpr h)))
      have a2 : ¬ sp_ga q (nI (k + 1)) (sp_n q) ≤ rr.2 → sp_gs q (sp_gN q o) (k + 1) = (nI (k + 1), sp_ga q (nI (k + 1)) (sp_n q)) := fun h => e.trans (sp_if_t ⟨Int32.not_le.mp h, z⟩)
      refine wp_isto5 d_Th_bestSet_58 rfl ?_
      refine wp_iload d_Th_bestSet_60 rfl ?_
      refine wp_iload_n d_Th_bestSet_62 rfl rfl ?_
      refine wp_ic_le (pc' := 72) d_Th_bestSet_63 (by decide) (fun h63 => ?_) (fun h63 => ?_)
      · refine wp_iinc4 d_Th_bestSet_72 rfl (nI_add _ 1) ?_
        refine wp_goto (pc' := 38) d_Th_bestSet_75 (by decide) ?_
        first
        | exact IH _ (a1 h63) _
        | exact IH _ (a2 h63) _
      · refine wp_iload d_Th_bestSet_66 rfl ?_
        refine wp_iston3 d_Th_bestSet_68 rfl ?_
        refine wp_iload d_Th_bestSet_69 rfl ?_
        refine wp_iston2 d_Th_bestSet_71 rfl ?_
        refine wp_iinc4 d_Th_bestSet_72 rfl (nI_add _ 1) ?_
        refine wp_goto (pc' := 38) d_Th_bestSet_75 (by decide) ?_
        first
        | exact IH _ (a1 h63) _
        | exact IH _ (a2 h63) _
    · refine wp_Ki ?_
      have a1 : sp_gs q (sp_gN q o) (k + 1) = rr := e.trans (sp_if_f (fun y => z y.2))
      refine wp_isto5 d_Th_bestSet_58 rfl ?_
      refine wp_iload d_Th_bestSet_60 rfl ?_
      refine wp_iload_n d_Th_bestSet_62 rfl rfl ?_
      refine wp_ic_le (pc' := 72) d_Th_bestSet_63 (by decide) (fun h63 => ?_) (fun h63 => absurd (Int32.le_trans (show (-1 : Int32) ≤ 0 from by decide) (Int32.not_lt.mp g0)) h63)
      refine wp_iinc4 d_Th_bestSet_72 rfl (nI_add _ 1) ?_
      refine wp_goto (pc' := 38) d_Th_bestSet_75 (by decide) ?_
      exact IH _ a1 _
theorem c_bestSet (C : CL S q) (hw : sp_wf q) {o : Nat} (ho : o < 4) (K : ∀ S', CL S' q → (∀ j, j < sp_n q → S'.2 69 j = sp_lt q o j) → fr cY S S' → Q (some (.int (sp_gs q (sp_gN q o) (2 ^ sp_n q - 1)).1)) S') : cl h_Th_bestSet y_Th_bestSet [.ref 67, .int (nI o)] S Q := by
  have hn := hw.n
  have hp := i_pow hn.1
  refine cl_in ml_Th_bestSet rfl rfl ?_
  refine wp_iconst (x := nI 0) d_Th_bestSet_0 rfl ?_
  refine wp_iston2 d_Th_bestSet_1 rfl ?_
  refine c_bs_1 (S := S) hw ho _ _ _ (fun S' C' h' f' => ?_) (sp_n q) 0 S (Nat.zero_add _) C (fun j hj => by omega) fr.rf
  have st := fun l5 => c_bs_2 C' hw h' (K S' C' h' f') (2 ^ sp_n q - 1) 0 l5 (by omega)
  rw [sp_gs_0] at st
  refine wp_iconst (x := nI 0) d_Th_bestSet_31 rfl ?_
  refine wp_iston2 d_Th_bestSet_32 rfl ?_
  refine wp_iconst (x := nI 0) d_Th_bestSet_33 rfl ?_
  refine wp_iston3 d_Th_bestSet_34 rfl ?_
  refine wp_iconst (x := nI 1) d_Th_bestSet_35 rfl ?_
  refine wp_isto4 d_Th_bestSet_36 rfl ?_
  exact st _
theorem c_gain (C : CL S q) (hw : sp_wf q) (o w : Int32) (K : cQ S (op_gain q o w) Q) : cl h_Fo_gain y_Fo_gain [.ref 0, .int o, .int w] S Q := by
  unfold op_gain at K
  by_cases h : sp_isW o 3 ∧ sp_isW w 1
  · rw [sp_if_t h] at K
    obtain ⟨o', ho, rfl⟩ := (i_in (by decide)).mp h.1
    rw [nI_clamp (by omega)] at K
    by_cases hz : w = 0
    · rw [sp_if_t hz] at K
      obtain ⟨g1, g2⟩ := sp_gs_inv (q := q) (nd := sp_gN q o') hw (2 ^ sp_n q - 1)
      rw [g2] at K
      refine cl_in ml_Fo_gain rfl rfl ?_
      refine wp_iload_n d_Fo_gain_0 rfl rfl ?_
      refine wp_invS d_Fo_gain_1 ow_Fo_gain lk_7_125 (by decide) mi_Fo_isOwner rfl rfl (Nat.le_of_ble_eq_true rfl) rfl (show h_Fo_isOwner ≤ _ from by decide) (c_isOwner _ ?_)
      refine wp_Ki ?_
      refine wp_ifB_eq (pc' := 16) d_Fo_gain_4 (by decide) (fun h4 => absurd h.1 h4) (fun h4 => ?_)
      refine wp_iload_n d_Fo_gain_7 rfl rfl ?_
      refine wp_iconst (x := nI 0) d_Fo_gain_8 rfl ?_
      refine wp_iconst (x := nI 1) d_Fo_gain_9 rfl ?_
      refine wp_invS d_Fo_gain_10 ow_Fo_gain lk_7_66 (by decide) mi_Fo_isWithin rfl rfl (Nat.le_of_ble_eq_true rfl) rfl (show h_Fo_isWithin ≤ _ from by decide) (c_isWithin _ _ _ ?_)
      refine wp_Ki ?_
      refine wp_ifB_ne (pc' := 22) d_Fo_gain_13 (by decide) (fun h13 => ?_) (fun h13 => absurd h.2 h13)
      refine wp_aload_n d_Fo_gain_22 rfl rfl ?_
      refine wp_getR d_Fo_gain_23 ow_Fo_gain fl_7_37 (O_0 _) rfl ?_
      refine wp_iload_n d_Fo_gain_26 rfl rfl ?_
      refine wp_invV d_Fo_gain_27 ow_Fo_gain lk_7_205 (by decide) mi_Th_bestSet rfl rfl (Nat.le_of_ble_eq_true rfl) rfl (wp_isC (O_67 _)) (show h_Th_bestSet ≤ _ from by decide) (c_bestSet C hw (by omega) (fun S2 C2 h2 f2 => ?_))
      refine wp_Ki ?_
      refine wp_iston3 d_Fo_gain_30 rfl ?_
      refine wp_iload_n d_Fo_gain_31 rfl rfl ?_
      refine wp_if_ne (pc' := 46) d_Fo_gain_32 (by decide) (fun h32 => absurd hz h32) (fun h32 => ?_)
      refine wp_aload_n d_Fo_gain_35 rfl rfl ?_
      refine wp_getR d_Fo_gain_36 ow_Fo_gain fl_7_37 (O_0 _) rfl ?_
      refine wp_iload_n d_Fo_gain_39 rfl rfl ?_
      refine wp_invV d_Fo_gain_40 ow_Fo_gain lk_7_208 (by decide) mi_Th_acresBy rfl rfl (Nat.le_of_ble_eq_true rfl) rfl (wp_isC (O_67 _)) (show h_Th_acresBy ≤ _ from by decide) (c_acresBy C2 hw o' h2 _ (fun _ => ?_) (fun z => absurd g1 z))
      refine wp_Ki ?_
      refine wp_goto (pc' := 47) d_Fo_gain_43 (by decide) ?_
      refine wp_reti d_Fo_gain_47 rt_Fo_gain ?_
      exact cQ_ok K C2 f2
    · rw [sp_if_f hz] at K
      refine cl_in ml_Fo_gain rfl rfl ?_
      refine wp_iload_n d_Fo_gain_0 rfl rfl ?_
      refine wp_invS d_Fo_gain_1 ow_Fo_gain lk_7_125 (by decide) mi_Fo_isOwner rfl rfl (Nat.le_of_ble_eq_true rfl) rfl (show h_Fo_isOwner ≤ _ from by decide) (c_isOwner _ ?_)
      refine wp_Ki ?_
      refine wp_ifB_eq (pc' := 16) d_Fo_gain_4 (by decide) (fun h4 => absurd h.1 h4) (fun h4 => ?_)
      refine wp_iload_n d_Fo_gain_7 rfl rfl ?_
      refine wp_iconst (x := nI 0) d_Fo_gain_8 rfl ?_
      refine wp_iconst (x := nI 1) d_Fo_gain_9 rfl ?_
      refine wp_invS d_Fo_gain_10 ow_Fo_gain lk_7_66 (by decide) mi_Fo_isWithin rfl rfl (Nat.le_of_ble_eq_true rfl) rfl (show h_Fo_isWithin ≤ _ from by decide) (c_isWithin _ _ _ ?_)
      refine wp_Ki ?_
      refine wp_ifB_ne (pc' := 22) d_Fo_gain_13 (by decide) (fun h13 => ?_) (fun h13 => absurd h.2 h13)
      refine wp_aload_n d_Fo_gain_22 rfl rfl ?_
      refine wp_getR d_Fo_gain_23 ow_Fo_gain fl_7_37 (O_0 _) rfl ?_
      refine wp_iload_n d_Fo_gain_26 rfl rfl ?_
      refine wp_invV d_Fo_gain_27 ow_Fo_gain lk_7_205 (by decide) mi_Th_bestSet rfl rfl (Nat.le_of_ble_eq_true rfl) rfl (wp_isC (O_67 _)) (show h_Th_bestSet ≤ _ from by decide) (c_bestSet C hw (by omega) (fun S2 C2 h2 f2 => ?_))
      refine wp_Ki ?_
      refine wp_iston3 d_Fo_gain_30 rfl ?_
      refine wp_iload_n d_Fo_gain_31 rfl rfl ?_
      refine wp_if_ne (pc' := 46) d_Fo_gain_32 (by decide) (fun h32 => ?_) (fun h32 => absurd h32 hz)
      refine wp_iload_n d_Fo_gain_46 rfl rfl ?_
      refine wp_reti d_Fo_gain_47 rt_Fo_gain ?_
      exact cQ_ok K C2 f2
  · rw [sp_if_f h] at K
    refine cl_in ml_Fo_gain rfl rfl ?_
    refine wp_iload_n d_Fo_gain_0 rfl rfl ?_
    refine wp_invS d_Fo_gain_1 ow_Fo_gain lk_7_125 (by decide) mi_Fo_isOwner rfl rfl (Nat.le_of_ble_eq_true rfl) rfl (show h_Fo_isOwner ≤ _ from by decide) (c_isOwner _ ?_)
    refine wp_Ki ?_
    refine wp_ifB_eq (pc' := 16) d_Fo_gain_4 (by decide) (fun h4 => ?_) (fun h4 => ?_)
    · refine wp_aload_n d_Fo_gain_16 rfl rfl ?_
      refine wp_iconst (x := nI 1) d_Fo_gain_17 rfl ?_
      refine wp_invV d_Fo_gain_18 ow_Fo_gain lk_7_70 (by decide) mi_Fo_error rfl rfl (Nat.le_of_ble_eq_true rfl) rfl (wp_isC (O_0 _)) (show h_Fo_error ≤ _ from by decide) (c_error 1 (by decide) (by decide) ?_)
      refine wp_Ki ?_
      refine wp_reti d_Fo_gain_21 rt_Fo_gain ?_
      exact cQ_er (e := 1) K (by decide) C fr.rf
    · refine wp_iload_n d_Fo_gain_7 rfl rfl ?_
      refine wp_iconst (x := nI 0) d_Fo_gain_8 rfl ?_
      refine wp_iconst (x := nI 1) d_Fo_gain_9 rfl ?_
      refine wp_invS d_Fo_gain_10 ow_Fo_gain lk_7_66 (by decide) mi_Fo_isWithin rfl rfl (Nat.le_of_ble_eq_true rfl) rfl (show h_Fo_isWithin ≤ _ from by decide) (c_isWithin _ _ _ ?_)
      refine wp_Ki ?_
      refine wp_ifB_ne (pc' := 22) d_Fo_gain_13 (by decide) (fun h13 => absurd ⟨h4, h13⟩ h) (fun h13 => ?_)
      refine wp_aload_n d_Fo_gain_16 rfl rfl ?_
      refine wp_iconst (x := nI 1) d_Fo_gain_17 rfl ?_
      refine wp_invV d_Fo_gain_18 ow_Fo_gain lk_7_70 (by decide) mi_Fo_error rfl rfl (Nat.le_of_ble_eq_true rfl) rfl (wp_isC (O_0 _)) (show h_Fo_error ≤ _ from by decide) (c_error 1 (by decide) (by decide) ?_)
      refine wp_Ki ?_
      refine wp_reti d_Fo_gain_21 rt_Fo_gain ?_
      exact cQ_er (e := 1) K (by decide) C fr.rf
end CJ
