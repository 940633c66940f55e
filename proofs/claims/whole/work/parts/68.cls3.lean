/-! the class: hearing out -/
/-- the land -/
def cLd (k _j : Nat) : Prop := 1 ≤ k ∧ k ≤ 32
theorem fr_LS {S S' : wp_S} (f : fr cS S S') : fr cLd S S' := f.mono (fun _ _ z => by unfold cS at z; unfold cLd; omega)
theorem fr_LF {S S' : wp_S} {i : Nat} (hi : i < 10) (f : fr (cF i) S S') : fr cLd S S' := f.mono (fun _ _ z => by unfold cF at z; unfold cLd; omega)
theorem sp_cl_n {x : Nat} (hx : x < 2 ^ 31) : sp_cl (nI x) 0 9999 = nI (min x 9999) := by
  unfold sp_cl
  rw [if_neg (nI_pos hx)]
  by_cases h : 9999 < x
  · rw [if_pos (show (9999 : Int32) < nI x from (nI_ltI (a := 9999) (by decide) hx).mpr h), show min x 9999 = 9999 by omega]
    rfl
  · rw [if_neg (show ¬ (9999 : Int32) < nI x from fun z => h ((nI_ltI (a := 9999) (by decide) hx).mp z)), show min x 9999 = x by omega]
section CC
variable {S : wp_S} {q : sp_R} {mu : Int32} {Q : Option Value → wp_S → Prop}
theorem CL_12 (C : CL S q) (j : Nat) (x : Int32) : CL (wp_u S 12 j x) q := C.fr (fun k i h => wp_un (fun z => h (by unfold cW; omega)))
theorem c_ho_1 (hw : sp_wf q) (a b : Int32) (l4 : Option Value) (K : ∀ S', CL S' q → (∀ k, k < sp_n q → S'.2 12 k = sp_who q (-1) k) → fr cLd S S' → wp (h_La_hearOut - 1) y_La_hearOut 28 [some (.ref 1), some (.int a), some (.int b), some (.int (nI (sp_n q))), l4] [] S' Q) : ∀ m k (S' : wp_S), k + m = sp_n q → CL S' q → (∀ j, j < k → S'.2 12 j = sp_who q (-1) j) → fr cLd S S' → wp (h_La_hearOut - 1) y_La_hearOut 2 [some (.ref 1), some (.int a), some (.int b), some (.int (nI k)), l4] [] S' Q := by
  have hn := hw.n
  intro m
  induction m with
  | zero =>
    intro k S' hk C h fS
    obtain rfl : k = sp_n q := by omega
    refine wp_iload_n d_La_hearOut_2 rfl rfl ?_
    refine wp_aload_n d_La_hearOut_3 rfl rfl ?_
    refine wp_getI d_La_hearOut_4 ow_La_hearOut fl_1_46 (O_1 _) rfl (C.n.trans hn.2) ?_
    refine wp_icN_ge (pc' := 28) d_La_hearOut_7 (by decide) (by omega) (by omega) (fun h7 => ?_) (fun h7 => absurd h7 (by omega))
    exact K S' C h fS
  | succ m ih =>
    intro k S' hk C h fS
    refine wp_iload_n d_La_hearOut_2 rfl rfl ?_
    refine wp_aload_n d_La_hearOut_3 rfl rfl ?_
    refine wp_getI d_La_hearOut_4 ow_La_hearOut fl_1_46 (O_1 _) rfl (C.n.trans hn.2) ?_
    refine wp_icN_ge (pc' := 28) d_La_hearOut_7 (by decide) (by omega) (by omega) (fun h7 => absurd h7 (by omega)) (fun h7 => ?_)
    refine wp_aload_n d_La_hearOut_10 rfl rfl ?_
    refine wp_getR d_La_hearOut_11 ow_La_hearOut fl_1_43 (O_1 _) rfl ?_
    refine wp_iload_n d_La_hearOut_14 rfl rfl ?_
    refine wp_aload_n d_La_hearOut_15 rfl rfl ?_
    refine wp_iload_n d_La_hearOut_16 rfl rfl ?_
    refine wp_iconst (x := -1) d_La_hearOut_17 rfl ?_
    refine wp_invV d_La_hearOut_18 ow_La_hearOut lk_1_127 (by decide) mi_La_ownerOf rfl rfl (Nat.le_of_ble_eq_true rfl) rfl (wp_isC (O_1 _)) (show h_La_ownerOf ≤ _ from by decide) (c_ownerOf C hw (-1) k (by omega) (fun S2 f2 => ?_))
    refine wp_Ki ?_
    refine wp_iastore d_La_hearOut_21 (A_12 _) (by omega) (by decide) ?_
    refine wp_iinc3 d_La_hearOut_22 rfl (nI_add _ 1) ?_
    refine wp_goto (pc' := 2) d_La_hearOut_25 (by decide) ?_
    refine ih (k + 1) _ (by omega) (CL_12 (CL_st C f2) k _) (fun j hj => ?_) ((fS.tr (fr_LS f2)).up (by unfold cLd; omega))
    rw [wp_u2]
    by_cases hjk : j = k
    · rw [if_pos ⟨rfl, hjk⟩, hjk]
    · rw [if_neg (fun z => hjk z.2)]
      exact (f2.2 12 j (fun z => by unfold cS at z; omega)).trans (h j (by omega))
theorem c_ho_2 {r : sp_R} (hw : sp_wf q) (hr : sp_wf r) (hrn : sp_n r = sp_n q) {l : Nat} (hl : l ≤ 9999) (a b : Int32) (K : ∀ S' l4 c, CL S' (sp_up r 2 (nI (min (l + c) 9999))) → c ≤ 10 → sp_ls q r (-1) (sp_n q) = nI c → fr cLd S S' → wp (h_La_hearOut - 1) y_La_hearOut 110 [some (.ref 1), some (.int a), some (.int b), some (.int (nI (sp_n q))), l4] [] S' Q) : ∀ m k c (S' : wp_S) l4, k + m = sp_n q → c ≤ k → sp_ls q r (-1) k = nI c → CL S' (sp_up r 2 (nI (min (l + c) 9999))) → (∀ j, j < sp_n q → S'.2 12 j = sp_who q (-1) j) → fr cLd S S' → wp (h_La_hearOut - 1) y_La_hearOut 40 [some (.ref 1), some (.int a), some (.int b), some (.int (nI k)), l4] [] S' Q := by
  have hn := hw.n
  intro m
  induction m with
  | zero =>
    intro k c S' l4 hk hc e C h fS
    obtain rfl : k = sp_n q := by omega
    have e0 : sp_up r 2 (nI (min (l + c) 9999)) 0 = nI (sp_n q) := (sp_up_ne _ _ (by decide)).trans (hrn ▸ hr.n.2)
    refine wp_iload_n d_La_hearOut_40 rfl rfl ?_
    refine wp_aload_n d_La_hearOut_41 rfl rfl ?_
    refine wp_getI d_La_hearOut_42 ow_La_hearOut fl_1_46 (O_1 _) rfl (C.n.trans e0) ?_
    refine wp_icN_ge (pc' := 110) d_La_hearOut_45 (by decide) (by omega) (by omega) (fun h45 => ?_) (fun h45 => absurd h45 (by omega))
    exact K S' l4 c C (by omega) e fS
  | succ m ih =>
    intro k c S' l4 hk hc e C h fS
    have e0 : sp_up r 2 (nI (min (l + c) 9999)) 0 = nI (sp_n q) := (sp_up_ne _ _ (by decide)).trans (hrn ▸ hr.n.2)
    have hp : sp_wf (sp_up r 2 (nI (min (l + c) 9999))) := sp_wf_h hr (by decide) (fun _ => ⟨_, by omega, rfl⟩) (fun z => by omega) (fun z => by omega) (fun z => by omega) (fun z => by omega)
    have hpn : sp_n (sp_up r 2 (nI (min (l + c) 9999))) = sp_n q := by
      unfold sp_n at *
      rw [sp_up_ne _ _ (by decide)]
      exact hrn
    have hwho : sp_who (sp_up r 2 (nI (min (l + c) 9999))) (-1) k = sp_who r (-1) k := sp_who_c (fun j hj => sp_up_ne _ _ (by omega)) (fun u hu => sp_up_ne _ _ (by omega)) (-1) k
    have es : sp_ls q r (-1) (k + 1) = sp_ls q r (-1) k + bi (0 ≤ sp_who q (-1) k ∧ sp_who r (-1) k ≠ sp_who q (-1) k) := by rw [sp_ls]
    rw [e] at es
    have hb := h k (by omega)
    have h2 : ∀ S2 : wp_S, CL S2 (sp_up r 2 (nI (min (l + c) 9999))) → S2.2 1 10 = nI (min (l + c) 9999) := fun S2 C2 => (C2.sc 2 (by decide) (by decide) (by decide)).trans (sp_up_eq _ _ _)
    have hw2 : ∀ {S2 : wp_S} (x : Int32), CL S2 (sp_up r 2 (nI (min (l + c) 9999))) → CL (wp_u S2 1 10 x) (sp_up r 2 x) := fun x C2 => by
      have := C2.w (j := 2) (by decide) (by decide) (by decide) x
      rw [show sp_up (sp_up r 2 (nI (min (l + c) 9999))) 2 x = sp_up r 2 x from funext fun j => by unfold sp_up; split <;> rfl] at this
      exact this
    refine wp_iload_n d_La_hearOut_40 rfl rfl ?_
    refine wp_aload_n d_La_hearOut_41 rfl rfl ?_
    refine wp_getI d_La_hearOut_42 ow_La_hearOut fl_1_46 (O_1 _) rfl (C.n.trans e0) ?_
    refine wp_icN_ge (pc' := 110) d_La_hearOut_45 (by decide) (by omega) (by omega) (fun h45 => absurd h45 (by omega)) (fun h45 => ?_)
    refine wp_aload_n d_La_hearOut_48 rfl rfl ?_
    refine wp_getR d_La_hearOut_49 ow_La_hearOut fl_1_43 (O_1 _) rfl ?_
    refine wp_iload_n d_La_hearOut_52 rfl rfl ?_
    refine wp_iaload d_La_hearOut_53 (A_12 _) (by omega) (by decide) (hb) ?_
    refine wp_if_lt (pc' := 76) d_La_hearOut_54 (by decide) (fun h54 => ?_) (fun h54 => ?_)
    · refine wp_iconst (x := nI 0) d_La_hearOut_76 rfl ?_
      refine wp_isto4 d_La_hearOut_77 rfl ?_
      refine wp_iload d_La_hearOut_79 rfl ?_
      refine wp_ifN_eq (pc' := 104) d_La_hearOut_81 (by decide) (by omega) (fun _ => ?_) (fun q => absurd q (by decide))
      refine wp_iinc3 d_La_hearOut_104 rfl (nI_add _ 1) ?_
      refine wp_goto (pc' := 40) d_La_hearOut_107 (by decide) ?_
      first
      | (have g := Int32.not_le.mpr h54
         rw [bi_f (fun z => absurd z.1 g), show nI c + 0 = nI c from i_a0 _] at es
         exact ih (k + 1) c S' _ (by omega) (by omega) es C h fS)
      | (have g := Eq.symm h69
         rw [bi_f (fun z => z.2 g), show nI c + 0 = nI c from i_a0 _] at es
         exact ih (k + 1) c S2 _ (by omega) (by omega) es (CL_st C f2) (fun j hj => (f2.2 12 j (fun z => by unfold cS at z; omega)).trans (h j hj)) (fS.tr (fr_LS f2)))
      | (rw [bi_t ⟨Int32.not_lt.mp h54, fun z => h69 z.symm⟩, show nI c + 1 = nI (c + 1) from nI_add c 1] at es
         first
         | exact ih (k + 1) (c + 1) S2 _ (by omega) (by omega) es (by rw [show min (l + (c + 1)) 9999 = min (l + c) 9999 by omega]; exact CL_st C f2) (fun j hj => (f2.2 12 j (fun z => by unfold cS at z; omega)).trans (h j hj)) (fS.tr (fr_LS f2))
         | exact ih (k + 1) (c + 1) _ _ (by omega) (by omega) es (by rw [show min (l + (c + 1)) 9999 = min (l + c) 9999 + 1 by omega]; exact hw2 _ (CL_st C f2)) (fun j hj => (wp_un (by omega)).trans ((f2.2 12 j (fun z => by unfold cS at z; omega)).trans (h j hj))) ((fS.tr (fr_LS f2)).up (by unfold cLd; omega)))
    · refine wp_aload_n d_La_hearOut_57 rfl rfl ?_
      refine wp_getR d_La_hearOut_58 ow_La_hearOut fl_1_43 (O_1 _) rfl ?_
      refine wp_iload_n d_La_hearOut_61 rfl rfl ?_
      refine wp_iaload d_La_hearOut_62 (A_12 _) (by omega) (by decide) (hb) ?_
      refine wp_aload_n d_La_hearOut_63 rfl rfl ?_
      refine wp_iload_n d_La_hearOut_64 rfl rfl ?_
      refine wp_iconst (x := -1) d_La_hearOut_65 rfl ?_
      refine wp_invV d_La_hearOut_66 ow_La_hearOut lk_1_127 (by decide) mi_La_ownerOf rfl rfl (Nat.le_of_ble_eq_true rfl) rfl (wp_isC (O_1 _)) (show h_La_ownerOf ≤ _ from by decide) (c_ownerOf C hp (-1) k (by omega) (fun S2 f2 => lf_i hwho ?_))
      refine wp_Ki ?_
      refine wp_ic_eq (pc' := 76) d_La_hearOut_69 (by decide) (fun h69 => ?_) (fun h69 => ?_)
      · refine wp_iconst (x := nI 0) d_La_hearOut_76 rfl ?_
        refine wp_isto4 d_La_hearOut_77 rfl ?_
        refine wp_iload d_La_hearOut_79 rfl ?_
        refine wp_ifN_eq (pc' := 104) d_La_hearOut_81 (by decide) (by omega) (fun _ => ?_) (fun q => absurd q (by decide))
        refine wp_iinc3 d_La_hearOut_104 rfl (nI_add _ 1) ?_
        refine wp_goto (pc' := 40) d_La_hearOut_107 (by decide) ?_
        first
        | (have g := Int32.not_le.mpr h54
           rw [bi_f (fun z => absurd z.1 g), show nI c + 0 = nI c from i_a0 _] at es
           exact ih (k + 1) c S' _ (by omega) (by omega) es C h fS)
        | (have g := Eq.symm h69
           rw [bi_f (fun z => z.2 g), show nI c + 0 = nI c from i_a0 _] at es
           exact ih (k + 1) c S2 _ (by omega) (by omega) es (CL_st C f2) (fun j hj => (f2.2 12 j (fun z => by unfold cS at z; omega)).trans (h j hj)) (fS.tr (fr_LS f2)))
        | (rw [bi_t ⟨Int32.not_lt.mp h54, fun z => h69 z.symm⟩, show nI c + 1 = nI (c + 1) from nI_add c 1] at es
           first
           | exact ih (k + 1) (c + 1) S2 _ (by omega) (by omega) es (by rw [show min (l + (c + 1)) 9999 = min (l + c) 9999 by omega]; exact CL_st C f2) (fun j hj => (f2.2 12 j (fun z => by unfold cS at z; omega)).trans (h j hj)) (fS.tr (fr_LS f2))
           | exact ih (k + 1) (c + 1) _ _ (by omega) (by omega) es (by rw [show min (l + (c + 1)) 9999 = min (l + c) 9999 + 1 by omega]; exact hw2 _ (CL_st C f2)) (fun j hj => (wp_un (by omega)).trans ((f2.2 12 j (fun z => by unfold cS at z; omega)).trans (h j hj))) ((fS.tr (fr_LS f2)).up (by unfold cLd; omega)))
      · refine wp_iconst (x := nI 1) d_La_hearOut_72 rfl ?_
        refine wp_goto (pc' := 77) d_La_hearOut_73 (by decide) ?_
        refine wp_isto4 d_La_hearOut_77 rfl ?_
        refine wp_iload d_La_hearOut_79 rfl ?_
        refine wp_ifN_eq (pc' := 104) d_La_hearOut_81 (by decide) (by omega) (fun q => absurd q (by decide)) (fun _ => ?_)
        refine wp_aload_n d_La_hearOut_84 rfl rfl ?_
        refine wp_getI d_La_hearOut_85 ow_La_hearOut fl_1_56 (O_1 _) rfl (h2 _ (CL_st C f2)) ?_
        refine wp_sipush (x := nI 9999) d_La_hearOut_88 (by decide) ?_
        refine wp_icN_ge (pc' := 104) d_La_hearOut_91 (by decide) (by omega) (by omega) (fun h91 => ?_) (fun h91 => ?_)
        · refine wp_iinc3 d_La_hearOut_104 rfl (nI_add _ 1) ?_
          refine wp_goto (pc' := 40) d_La_hearOut_107 (by decide) ?_
          first
          | (have g := Int32.not_le.mpr h54
             rw [bi_f (fun z => absurd z.1 g), show nI c + 0 = nI c from i_a0 _] at es
             exact ih (k + 1) c S' _ (by omega) (by omega) es C h fS)
          | (have g := Eq.symm h69
             rw [bi_f (fun z => z.2 g), show nI c + 0 = nI c from i_a0 _] at es
             exact ih (k + 1) c S2 _ (by omega) (by omega) es (CL_st C f2) (fun j hj => (f2.2 12 j (fun z => by unfold cS at z; omega)).trans (h j hj)) (fS.tr (fr_LS f2)))
          | (rw [bi_t ⟨Int32.not_lt.mp h54, fun z => h69 z.symm⟩, show nI c + 1 = nI (c + 1) from nI_add c 1] at es
             first
             | exact ih (k + 1) (c + 1) S2 _ (by omega) (by omega) es (by rw [show min (l + (c + 1)) 9999 = min (l + c) 9999 by omega]; exact CL_st C f2) (fun j hj => (f2.2 12 j (fun z => by unfold cS at z; omega)).trans (h j hj)) (fS.tr (fr_LS f2))
             | exact ih (k + 1) (c + 1) _ _ (by omega) (by omega) es (by rw [show min (l + (c + 1)) 9999 = min (l + c) 9999 + 1 by omega]; exact hw2 _ (CL_st C f2)) (fun j hj => (wp_un (by omega)).trans ((f2.2 12 j (fun z => by unfold cS at z; omega)).trans (h j hj))) ((fS.tr (fr_LS f2)).up (by unfold cLd; omega)))
        · refine wp_aload_n d_La_hearOut_94 rfl rfl ?_
          refine wp_dup d_La_hearOut_95 rfl ?_
          refine wp_getI d_La_hearOut_96 ow_La_hearOut fl_1_56 (O_1 _) rfl (h2 _ (CL_st C f2)) ?_
          refine wp_iconst (x := nI 1) d_La_hearOut_99 rfl ?_
          refine wp_iadd d_La_hearOut_100 (nI_add _ _) ?_
          refine wp_put (ty := .int) d_La_hearOut_101 ow_La_hearOut fl_1_56 (by decide +kernel) (by decide +kernel) (O_1 _) rfl ⟨rfl, rfl⟩ ?_
          refine wp_iinc3 d_La_hearOut_104 rfl (nI_add _ 1) ?_
          refine wp_goto (pc' := 40) d_La_hearOut_107 (by decide) ?_
          first
          | (have g := Int32.not_le.mpr h54
             rw [bi_f (fun z => absurd z.1 g), show nI c + 0 = nI c from i_a0 _] at es
             exact ih (k + 1) c S' _ (by omega) (by omega) es C h fS)
          | (have g := Eq.symm h69
             rw [bi_f (fun z => z.2 g), show nI c + 0 = nI c from i_a0 _] at es
             exact ih (k + 1) c S2 _ (by omega) (by omega) es (CL_st C f2) (fun j hj => (f2.2 12 j (fun z => by unfold cS at z; omega)).trans (h j hj)) (fS.tr (fr_LS f2)))
          | (rw [bi_t ⟨Int32.not_lt.mp h54, fun z => h69 z.symm⟩, show nI c + 1 = nI (c + 1) from nI_add c 1] at es
             first
             | exact ih (k + 1) (c + 1) S2 _ (by omega) (by omega) es (by rw [show min (l + (c + 1)) 9999 = min (l + c) 9999 by omega]; exact CL_st C f2) (fun j hj => (f2.2 12 j (fun z => by unfold cS at z; omega)).trans (h j hj)) (fS.tr (fr_LS f2))
             | exact ih (k + 1) (c + 1) _ _ (by omega) (by omega) es (by rw [show min (l + (c + 1)) 9999 = min (l + c) 9999 + 1 by omega]; exact hw2 _ (CL_st C f2)) (fun j hj => (wp_un (by omega)).trans ((f2.2 12 j (fun z => by unfold cS at z; omega)).trans (h j hj))) ((fS.tr (fr_LS f2)).up (by unfold cLd; omega)))
theorem c_hearOut (C : CL S q) (hw : sp_wf q) (h1 : q 1 < nI 9999) {o i : Nat} (ho : o < 4) (hi : i < sp_n q) (K : ∀ S', CL S' (sp_tl q (-1) o i) → fr cLd S S' → Q none S') : cl h_La_hearOut y_La_hearOut [.ref 1, .int (nI o), .int (nI i)] S Q := by
  have hn := hw.n
  obtain ⟨l, hl, el⟩ := hw.2.2.2.2.1
  have e2 : sp_hr q o i 2 = nI l := (sp_hr_ne q o i (Or.inl (by omega)) ho).trans el
  have e1 : sp_hr q o i 1 = q 1 := sp_hr_ne q o i (Or.inl (by omega)) ho
  have st := fun (S2 : wp_S) (C2 : CL S2 (sp_hr q o i)) (h2 : ∀ j, j < sp_n q → S2.2 12 j = sp_who q (-1) j) (f2 : fr cLd S S2) (l4 : Option Value) => c_ho_2 (S := S) (Q := Q) (r := sp_hr q o i) hw (sp_hr_wf hw hi ho) (sp_hr_n q o i ho) hl (nI o) (nI i) (fun S' l4 c C' hc e f' => by
    have e1' : sp_up (sp_hr q o i) 2 (nI (min (l + c) 9999)) 1 = q 1 := (sp_up_ne _ _ (by decide)).trans e1
    refine wp_aload_n d_La_hearOut_110 rfl rfl ?_
    refine wp_dup d_La_hearOut_111 rfl ?_
    refine wp_getI d_La_hearOut_112 ow_La_hearOut fl_1_53 (O_1 _) rfl ((C'.sc 1 (by decide) (by decide) (by decide)).trans e1') ?_
    refine wp_iconst (x := nI 1) d_La_hearOut_115 rfl ?_
    refine wp_iadd d_La_hearOut_116 rfl ?_
    refine wp_put (ty := .int) d_La_hearOut_117 ow_La_hearOut fl_1_53 (by decide +kernel) (by decide +kernel) (O_1 _) rfl ⟨rfl, rfl⟩ ?_
    refine wp_return d_La_hearOut_120 rt_La_hearOut ?_
    refine K _ ?_ (f'.up (by unfold cLd; omega))
    unfold sp_tl
    rw [e, el, nI_add, sp_cl_n (by omega)]
    exact C'.w (j := 1) (by decide) (by decide) (by decide) (q 1 + nI 1)
    ) (sp_n q) 0 0 S2 l4 (Nat.zero_add _) (Nat.le_refl _) (by rw [sp_ls]) (by rw [show nI (min (l + 0) 9999) = sp_hr q o i 2 from by rw [e2, show min (l + 0) 9999 = l by omega], sp_up_id _ _ rfl]; exact C2) h2 f2
  refine cl_in ml_La_hearOut rfl rfl ?_
  refine wp_iconst (x := nI 0) d_La_hearOut_0 rfl ?_
  refine wp_iston3 d_La_hearOut_1 rfl ?_
  refine c_ho_1 (S := S) hw (nI o) (nI i) _ (fun S' C' h' f' => ?_) (sp_n q) 0 S (Nat.zero_add _) C (fun j hj => by omega) fr.rf
  refine wp_aload_n d_La_hearOut_28 rfl rfl ?_
  refine wp_getR d_La_hearOut_29 ow_La_hearOut fl_1_11 (O_1 _) rfl ?_
  refine wp_iload_n d_La_hearOut_32 rfl rfl ?_
  refine wp_aaload d_La_hearOut_33 rfl (f_F (by omega)) (by decide) ?_
  refine wp_iload_n d_La_hearOut_34 rfl rfl ?_
  refine wp_invV d_La_hearOut_35 ow_La_hearOut lk_1_146 (by decide) mi_Fi_listen rfl rfl (Nat.le_of_ble_eq_true rfl) rfl (wp_isC (O_F _ (by omega))) (show h_Fi_listen ≤ _ from by decide) (c_listen C' (by omega) ho (hw.f hi) (fun S2 C2 f2 => ?_))
  refine wp_Kv ?_
  refine wp_iconst (x := nI 0) d_La_hearOut_38 rfl ?_
  refine wp_iston3 d_La_hearOut_39 rfl ?_
  exact st S2 C2 (fun k hk => (f2.2 12 k (fun z => by unfold cF at z; omega)).trans (h' k hk)) (f'.tr (fr_LF (by omega) f2)) _
end CC
