/-! the class: two runners by turns -/
theorem if_sp {α : Type} {P : Prop} [Decidable P] {x y : α} : (if P then x else y) = sp_if P x y := by
  by_cases h : P
  · rw [if_pos h, sp_if_t h]
  · rw [if_neg h, sp_if_f h]
theorem sp_acres_n {q : sp_R} (hw : sp_wf q) (mu o : Int32) : ∀ k, k ≤ sp_n q → ∃ a, a ≤ 99 * k ∧ sp_acres q mu o k = nI a
  | 0, _ => ⟨0, Nat.zero_le _, rfl⟩
  | k + 1, hk => by
    obtain ⟨a, ha, e⟩ := sp_acres_n hw mu o k (by omega)
    obtain ⟨b, hb1, hb2, eb⟩ := (hw.f (show k < sp_n q by omega)).2.2.1
    have es : sp_acres q mu o (k + 1) = sp_acres q mu o k + (if sp_who q mu k = o then sp_f q k 2 else nI 0) := by rw [sp_acres]
    rw [es, e, eb]
    by_cases h : sp_who q mu k = o
    · rw [if_pos h, nI_add]
      exact ⟨a + b, by omega, rfl⟩
    · rw [if_neg h, i_a0]
      exact ⟨a, by omega, rfl⟩
def sp_B (v : Int32) : Prop := -1000 ≤ v.toInt ∧ v.toInt ≤ 1000
theorem sp_B_neg {v : Int32} (h : sp_B v) : sp_B (-v) := by
  unfold sp_B at *
  rw [Jvm.Kit.i32_neg (by omega)]
  omega
theorem sp_B_ad {q : sp_R} (hw : sp_wf q) (o p : Int32) : sp_B (sp_acres q (-1) o (sp_n q) - sp_acres q (-1) p (sp_n q)) := by
  have hn := hw.n.1
  obtain ⟨a, ha, ea⟩ := sp_acres_n hw (-1) o (sp_n q) (Nat.le_refl _)
  obtain ⟨b, hb, eb⟩ := sp_acres_n hw (-1) p (sp_n q) (Nat.le_refl _)
  have ia := nI_toInt (n := a) (by omega)
  have ib := nI_toInt (n := b) (by omega)
  unfold sp_B
  rw [ea, eb, Jvm.Kit.i32_sub (by omega) (by omega), ia, ib]
  omega
noncomputable def sp_cm (v : Nat → Int32) : Nat → Int32
  | 0 => -1000000000
  | i + 1 => sp_if (sp_cm v i < v i) (v i) (sp_cm v i)
theorem sp_cm_0 (v : Nat → Int32) : sp_cm v 0 = -1000000000 := by rw [sp_cm]
theorem sp_cm_s (v : Nat → Int32) (i : Nat) : sp_cm v (i + 1) = sp_if (sp_cm v i < v i) (v i) (sp_cm v i) := by rw [sp_cm]
noncomputable def sp_ct : Nat → Nat → Nat → sp_R → Int32
  | 0, o, p, q => sp_acres q (-1) (nI o) (sp_n q) - sp_acres q (-1) (nI p) (sp_n q)
  | l + 1, o, p, q => sp_cm (fun i => -(sp_ct l p o (sp_hr q o i))) (min (sp_n q) 5)
theorem sp_ct_0 (o p : Nat) (q : sp_R) : sp_ct 0 o p q = sp_acres q (-1) (nI o) (sp_n q) - sp_acres q (-1) (nI p) (sp_n q) := by rw [sp_ct]
theorem sp_ct_s (l o p : Nat) (q : sp_R) : sp_ct (l + 1) o p q = sp_cm (fun i => -(sp_ct l p o (sp_hr q o i))) (min (sp_n q) 5) := by rw [sp_ct]
theorem sp_cm_bl {v w : Nat → Int32} : ∀ k, (∀ i, i < k + 1 → v i = w i ∧ sp_B (v i)) → sp_cm v (k + 1) = sp_bl w (k + 1) ∧ sp_B (sp_cm v (k + 1))
  | 0, h => by
    have h0 := h 0 (by decide)
    have hl : (-1000000000 : Int32) < v 0 := by
      rw [Int32.lt_iff_toInt_lt]
      have e : (-1000000000 : Int32).toInt = -1000000000 := by decide
      have := h0.2
      unfold sp_B at this
      omega
    rw [sp_cm_s, sp_cm_0, sp_if_t hl, sp_bl_s, sp_if_t (Or.inl rfl)]
    exact ⟨h0.1, h0.2⟩
  | k + 1, h => by
    have ih := sp_cm_bl (v := v) (w := w) k (fun i hi => h i (by omega))
    have hk := h (k + 1) (by omega)
    rw [sp_cm_s, sp_bl_s, ← ih.1, ← hk.1]
    by_cases g : sp_cm v (k + 1) < v (k + 1)
    · rw [sp_if_t g, sp_if_t (Or.inr g)]
      exact ⟨rfl, hk.2⟩
    · rw [sp_if_f g, sp_if_f (fun z => z.elim (fun y => by omega) g)]
      exact ⟨rfl, ih.2⟩
theorem sp_ct_bt : ∀ (l o p : Nat) (q : sp_R), sp_wf q → 0 < sp_n q → o < 4 → p < 4 → sp_ct (l + 1) o p q = sp_bt (l + 1) o p q ∧ sp_B (sp_ct (l + 1) o p q) := by
  intro l
  induction l with
  | zero =>
    intro o p q hw h0 ho hp
    rw [sp_ct_s, sp_bt_s]
    obtain ⟨k, hk⟩ : ∃ k, min (sp_n q) 5 = k + 1 := ⟨min (sp_n q) 5 - 1, by omega⟩
    rw [hk]
    refine sp_cm_bl k (fun i hi => ?_)
    have hwr := sp_hr_wf hw (show i < sp_n q by omega) ho
    unfold sp_bv
    rw [sp_if_t rfl, sp_ct_0, Int32.neg_sub]
    exact ⟨rfl, sp_B_ad hwr _ _⟩
  | succ l ih =>
    intro o p q hw h0 ho hp
    rw [sp_ct_s, sp_bt_s]
    obtain ⟨k, hk⟩ : ∃ k, min (sp_n q) 5 = k + 1 := ⟨min (sp_n q) 5 - 1, by omega⟩
    rw [hk]
    refine sp_cm_bl k (fun i hi => ?_)
    have hwr := sp_hr_wf hw (show i < sp_n q by omega) ho
    have := ih p o (sp_hr q o i) hwr (by rw [sp_hr_n q o i ho]; exact h0) hp ho
    unfold sp_bv
    rw [sp_if_f (by omega), this.1]
    exact ⟨rfl, sp_B_neg (this.1 ▸ this.2)⟩
section CK
variable {S : wp_S} {q : sp_R} {mu : Int32} {Q : Option Value → wp_S → Prop}
theorem c_ln_loop (hw : sp_wf q) {o p : Nat} (ho : o < 4) (hp : p < 4) (hop : o ≠ p) : ∀ m k (S : wp_S) (l5 : Option Value), CL S q → k + m = sp_n q → (∀ S', fr cS S S' → Q (some (.int (sp_acres q (-1) (nI o) (sp_n q) - sp_acres q (-1) (nI p) (sp_n q)))) S') → wp (h_Th_leadNow - 1) y_Th_leadNow 5 [some (.ref 67), some (.int (nI o)), some (.int (nI p)), some (.int (sp_acres q (-1) (nI o) k - sp_acres q (-1) (nI p) k)), some (.int (nI k)), l5] [] S Q := by
  have hn := hw.n
  intro m
  induction m with
  | zero =>
    intro k S l5 C hk K
    obtain rfl : k = sp_n q := by omega
    refine wp_iload d_Th_leadNow_5 rfl ?_
    refine wp_aload_n d_Th_leadNow_7 rfl rfl ?_
    refine wp_getR d_Th_leadNow_8 ow_Th_leadNow fl_5_31 (O_67 _) rfl ?_
    refine wp_getI d_Th_leadNow_11 ow_Th_leadNow fl_5_54 (O_1 _) rfl (C.n.trans hn.2) ?_
    refine wp_icN_ge (pc' := 82) d_Th_leadNow_14 (by decide) (by omega) (by omega) (fun h14 => ?_) (fun h14 => absurd h14 (by omega))
    refine wp_iload_n d_Th_leadNow_82 rfl rfl ?_
    refine wp_reti d_Th_leadNow_83 rt_Th_leadNow ?_
    exact K _ fr.rf
  | succ m ih =>
    intro k S l5 C hk K
    have e1 : sp_acres q (-1) (nI o) (k + 1) = sp_acres q (-1) (nI o) k + (if sp_who q (-1) k = nI o then sp_f q k 2 else nI 0) := by rw [sp_acres]
    have e2 : sp_acres q (-1) (nI p) (k + 1) = sp_acres q (-1) (nI p) k + (if sp_who q (-1) k = nI p then sp_f q k 2 else nI 0) := by rw [sp_acres]
    have hne : nI o ≠ nI p := fun z => hop ((nI_eq (by omega) (by omega)).mp z)
    have go : ∀ y, y = sp_acres q (-1) (nI o) (k + 1) - sp_acres q (-1) (nI p) (k + 1) → ∀ S2 l5, fr cS S S2 → wp (h_Th_leadNow - 1) y_Th_leadNow 5 [some (.ref 67), some (.int (nI o)), some (.int (nI p)), some (.int y), some (.int (nI (k + 1))), l5] [] S2 Q := by
      intro y hy S2 l5 f2
      subst hy
      exact ih (k + 1) S2 l5 (CL_st C f2) (by omega) (fun S3 f3 => K S3 (f2.tr f3))
    have b1 : sp_who q (-1) k = nI o → sp_acres q (-1) (nI o) k - sp_acres q (-1) (nI p) k + sp_f q k 2 = sp_acres q (-1) (nI o) (k + 1) - sp_acres q (-1) (nI p) (k + 1) := fun h => by
      rw [e1, e2, if_pos h, if_neg (fun z => hne (h.symm.trans z)), i_a0, Int32.sub_eq_add_neg, Int32.sub_eq_add_neg, Int32.add_assoc, Int32.add_assoc, Int32.add_comm (sp_f q k 2)]
    have b2 : sp_who q (-1) k = nI p → sp_acres q (-1) (nI o) k - sp_acres q (-1) (nI p) k - sp_f q k 2 = sp_acres q (-1) (nI o) (k + 1) - sp_acres q (-1) (nI p) (k + 1) := fun h => by
      rw [e1, e2, if_pos h, if_neg (fun z => hne (z.symm.trans h)), i_a0, Int32.sub_eq_add_neg, Int32.sub_eq_add_neg, Int32.sub_eq_add_neg, Int32.neg_add, Int32.sub_eq_add_neg, Int32.add_assoc]
    have b3 : ¬ sp_who q (-1) k = nI o → ¬ sp_who q (-1) k = nI p → sp_acres q (-1) (nI o) k - sp_acres q (-1) (nI p) k = sp_acres q (-1) (nI o) (k + 1) - sp_acres q (-1) (nI p) (k + 1) := fun h h' => by
      rw [e1, e2, if_neg h, if_neg h', i_a0, i_a0]
    refine wp_iload d_Th_leadNow_5 rfl ?_
    refine wp_aload_n d_Th_leadNow_7 rfl rfl ?_
    refine wp_getR d_Th_leadNow_8 ow_Th_leadNow fl_5_31 (O_67 _) rfl ?_
    refine wp_getI d_Th_leadNow_11 ow_Th_leadNow fl_5_54 (O_1 _) rfl (C.n.trans hn.2) ?_
    refine wp_icN_ge (pc' := 82) d_Th_leadNow_14 (by decide) (by omega) (by omega) (fun h14 => absurd h14 (by omega)) (fun h14 => ?_)
    refine wp_aload_n d_Th_leadNow_17 rfl rfl ?_
    refine wp_getR d_Th_leadNow_18 ow_Th_leadNow fl_5_31 (O_67 _) rfl ?_
    refine wp_iload d_Th_leadNow_21 rfl ?_
    refine wp_iconst (x := -1) d_Th_leadNow_23 rfl ?_
    refine wp_invV d_Th_leadNow_24 ow_Th_leadNow lk_5_47 (by decide) mi_La_ownerOf rfl rfl (Nat.le_of_ble_eq_true rfl) rfl (wp_isC (O_1 _)) (show h_La_ownerOf ≤ _ from by decide) (c_ownerOf C hw (-1) k (by omega) (fun S2 f2 => ?_))
    refine wp_Ki ?_
    refine wp_isto5 d_Th_leadNow_27 rfl ?_
    refine wp_iload d_Th_leadNow_29 rfl ?_
    refine wp_iload_n d_Th_leadNow_31 rfl rfl ?_
    refine wp_ic_ne (pc' := 54) d_Th_leadNow_32 (by decide) (fun h32 => ?_) (fun h32 => ?_)
    · refine wp_iload d_Th_leadNow_54 rfl ?_
      refine wp_iload_n d_Th_leadNow_56 rfl rfl ?_
      refine wp_ic_ne (pc' := 76) d_Th_leadNow_57 (by decide) (fun h57 => ?_) (fun h57 => ?_)
      · refine wp_iinc4 d_Th_leadNow_76 rfl (nI_add _ 1) ?_
        refine wp_goto (pc' := 5) d_Th_leadNow_79 (by decide) ?_
        first
        | exact go _ (b3 h32 h57) _ _ f2
        | exact go _ (b2 h57) _ _ f2
        | exact go _ (b1 h32) _ _ f2
      · refine wp_iload_n d_Th_leadNow_60 rfl rfl ?_
        refine wp_aload_n d_Th_leadNow_61 rfl rfl ?_
        refine wp_getR d_Th_leadNow_62 ow_Th_leadNow fl_5_31 (O_67 _) rfl ?_
        refine wp_getR d_Th_leadNow_65 ow_Th_leadNow fl_5_38 (O_1 _) rfl ?_
        refine wp_iload d_Th_leadNow_68 rfl ?_
        refine wp_aaload d_Th_leadNow_70 rfl (f_F (by omega)) (by decide) ?_
        refine wp_getI d_Th_leadNow_71 ow_Th_leadNow fl_5_70 (O_F _ (by omega)) rfl ((CL_st C f2).f (by omega) (w := 2) (by decide)) ?_
        refine wp_isub d_Th_leadNow_74 rfl ?_
        refine wp_iston3 d_Th_leadNow_75 rfl ?_
        refine wp_iinc4 d_Th_leadNow_76 rfl (nI_add _ 1) ?_
        refine wp_goto (pc' := 5) d_Th_leadNow_79 (by decide) ?_
        first
        | exact go _ (b3 h32 h57) _ _ f2
        | exact go _ (b2 h57) _ _ f2
        | exact go _ (b1 h32) _ _ f2
    · refine wp_iload_n d_Th_leadNow_35 rfl rfl ?_
      refine wp_aload_n d_Th_leadNow_36 rfl rfl ?_
      refine wp_getR d_Th_leadNow_37 ow_Th_leadNow fl_5_31 (O_67 _) rfl ?_
      refine wp_getR d_Th_leadNow_40 ow_Th_leadNow fl_5_38 (O_1 _) rfl ?_
      refine wp_iload d_Th_leadNow_43 rfl ?_
      refine wp_aaload d_Th_leadNow_45 rfl (f_F (by omega)) (by decide) ?_
      refine wp_getI d_Th_leadNow_46 ow_Th_leadNow fl_5_70 (O_F _ (by omega)) rfl ((CL_st C f2).f (by omega) (w := 2) (by decide)) ?_
      refine wp_iadd d_Th_leadNow_49 rfl ?_
      refine wp_iston3 d_Th_leadNow_50 rfl ?_
      refine wp_goto (pc' := 76) d_Th_leadNow_51 (by decide) ?_
      refine wp_iinc4 d_Th_leadNow_76 rfl (nI_add _ 1) ?_
      refine wp_goto (pc' := 5) d_Th_leadNow_79 (by decide) ?_
      first
      | exact go _ (b3 h32 h57) _ _ f2
      | exact go _ (b2 h57) _ _ f2
      | exact go _ (b1 h32) _ _ f2
theorem c_leadNow (C : CL S q) (hw : sp_wf q) {o p : Nat} (ho : o < 4) (hp : p < 4) (hop : o ≠ p) (K : ∀ S', fr cS S S' → Q (some (.int (sp_acres q (-1) (nI o) (sp_n q) - sp_acres q (-1) (nI p) (sp_n q)))) S') : cl h_Th_leadNow y_Th_leadNow [.ref 67, .int (nI o), .int (nI p)] S Q := by
  have st := fun l5 => c_ln_loop hw ho hp hop (sp_n q) 0 S l5 C (Nat.zero_add _) K
  rw [show sp_acres q (-1) (nI o) 0 - sp_acres q (-1) (nI p) 0 = nI 0 from by rw [sp_acres, sp_acres]; rfl] at st
  refine cl_in ml_Th_leadNow rfl rfl ?_
  refine wp_iconst (x := nI 0) d_Th_leadNow_0 rfl ?_
  refine wp_iston3 d_Th_leadNow_1 rfl ?_
  refine wp_iconst (x := nI 0) d_Th_leadNow_2 rfl ?_
  refine wp_isto4 d_Th_leadNow_3 rfl ?_
  exact st _
theorem c_bl_loop {d : Nat} (hd : 5 ≤ d) (l o p : Nat) (hl : l < 4) (ho : o < 4) (hp : p < 4) (hw : sp_wf q) (IH : ∀ (S : wp_S) (q : sp_R) (Q : Option Value → wp_S → Prop), CL S q → sp_wf q → (∀ S', CL S' q → fr (cTl l) S S' → Q (some (.int (sp_ct l p o q))) S') → cl d y_Th_bestLead [.ref 67, .int (nI p), .int (nI o), .int (nI l)] S Q) (K : ∀ S', CL S' q → fr (cTl (l + 1)) S S' → Q (some (.int (sp_cm (fun i => -(sp_ct l p o (sp_hr q o i))) (min (sp_n q) 5)))) S') : ∀ m i (S' : wp_S) (l7 : Option Value), i + m = min (sp_n q) 5 → CL S' q → fr (cTl (l + 1)) S S' → wp d y_Th_bestLead 33 [some (.ref 67), some (.int (nI o)), some (.int (nI p)), some (.int (nI (l + 1))), some (.ref (71 + 2 * l)), some (.int (sp_cm (fun i => -(sp_ct l p o (sp_hr q o i))) i)), some (.int (nI i)), l7] [] S' Q := by
  have hn := hw.n
  intro m
  induction m with
  | zero =>
    intro i S' l7 hi C fS
    obtain rfl : i = min (sp_n q) 5 := by omega
    refine wp_iload d_Th_bestLead_33 rfl ?_
    refine wp_iconst (x := nI 5) d_Th_bestLead_35 rfl ?_
    refine wp_icN_ge (pc' := 106) d_Th_bestLead_36 (by decide) (by omega) (by omega) (fun h36 => ?_) (fun h36 => ?_)
    · refine wp_iload d_Th_bestLead_106 rfl ?_
      refine wp_reti d_Th_bestLead_108 rt_Th_bestLead ?_
      exact K S' C fS
    · refine wp_iload d_Th_bestLead_39 rfl ?_
      refine wp_aload_n d_Th_bestLead_41 rfl rfl ?_
      refine wp_getR d_Th_bestLead_42 ow_Th_bestLead fl_5_31 (O_67 _) rfl ?_
      refine wp_getI d_Th_bestLead_45 ow_Th_bestLead fl_5_54 (O_1 _) rfl (C.n.trans hn.2) ?_
      refine wp_icN_ge (pc' := 106) d_Th_bestLead_48 (by decide) (by omega) (by omega) (fun h48 => ?_) (fun h48 => absurd h48 (by omega))
      refine wp_iload d_Th_bestLead_106 rfl ?_
      refine wp_reti d_Th_bestLead_108 rt_Th_bestLead ?_
      exact K S' C fS
  | succ m ih =>
    intro i S' l7 hi C fS
    have hi10 : i < 10 := by omega
    have hiq : i < sp_n q := by omega
    have e := sp_cm_s (fun i => -(sp_ct l p o (sp_hr q o i))) i
    have ih := fun S' l7 => ih (i + 1) S' l7 (by omega)
    rw [e] at ih
    obtain ⟨C1, s1⟩ := CL_save C hiq (b := 71 + 2 * l) (tb := 72 + 2 * l) (by omega) (by omega) (by omega)
    have f1 : fr (cTl (l + 1)) S (fcp S' (71 + 2 * l) (72 + 2 * l) (13 + 2 * i) (14 + 2 * i)) := fS.tr (fcp_fr (fun j => ⟨Or.inr ⟨by omega, by omega⟩, Or.inr ⟨by omega, by omega⟩⟩))
    have up : ∀ {S2 S3 : wp_S}, fr (cTl l) S2 S3 → fr (cTl (l + 1)) S2 S3 := fun f => f.mono (fun _ _ z => by unfold cTl at *; omega)
    refine wp_iload d_Th_bestLead_33 rfl ?_
    refine wp_iconst (x := nI 5) d_Th_bestLead_35 rfl ?_
    refine wp_icN_ge (pc' := 106) d_Th_bestLead_36 (by decide) (by omega) (by omega) (fun h36 => absurd h36 (by omega)) (fun h36 => ?_)
    refine wp_iload d_Th_bestLead_39 rfl ?_
    refine wp_aload_n d_Th_bestLead_41 rfl rfl ?_
    refine wp_getR d_Th_bestLead_42 ow_Th_bestLead fl_5_31 (O_67 _) rfl ?_
    refine wp_getI d_Th_bestLead_45 ow_Th_bestLead fl_5_54 (O_1 _) rfl (C.n.trans hn.2) ?_
    refine wp_icN_ge (pc' := 106) d_Th_bestLead_48 (by decide) (by omega) (by omega) (fun h48 => absurd h48 (by omega)) (fun h48 => ?_)
    refine wp_aload_n d_Th_bestLead_51 rfl rfl ?_
    refine wp_getR d_Th_bestLead_52 ow_Th_bestLead fl_5_31 (O_67 _) rfl ?_
    refine wp_getR d_Th_bestLead_55 ow_Th_bestLead fl_5_38 (O_1 _) rfl ?_
    refine wp_iload d_Th_bestLead_58 rfl ?_
    refine wp_aaload d_Th_bestLead_60 rfl (f_F (by omega)) (by decide) ?_
    refine wp_asto7 d_Th_bestLead_61 rfl ?_
    refine wp_aload d_Th_bestLead_63 rfl ?_
    refine wp_aload d_Th_bestLead_65 rfl ?_
    refine wp_invV d_Th_bestLead_67 ow_Th_bestLead lk_5_43 (by decide) mi_Fi_copyFrom rfl rfl (Nat.le_of_ble_eq_true rfl) rfl (wp_isC (O_P _ (by omega))) (Nat.le_trans (show h_Fi_copyFrom ≤ 5 from by decide) hd) (c_fcopy (fun S => O_P S hl) (fun S => O_F S hi10) (fun S => A_R S hl) (fun S => A_G S hi10) (by omega) (by omega) (by omega) ?_)
    refine wp_Kv ?_
    refine wp_aload d_Th_bestLead_70 rfl ?_
    refine wp_iload_n d_Th_bestLead_72 rfl rfl ?_
    refine wp_invV d_Th_bestLead_73 ow_Th_bestLead lk_5_51 (by decide) mi_Fi_listen rfl rfl (Nat.le_of_ble_eq_true rfl) rfl (wp_isC (O_F _ (by omega))) (Nat.le_trans (show h_Fi_listen ≤ 5 from by decide) hd) (c_listen C1 hiq ho (hw.f hiq) (fun S2 zC2 zf2 => ?_))
    refine wp_Kv ?_
    refine wp_iload d_Th_bestLead_76 rfl ?_
    refine wp_aload_n d_Th_bestLead_78 rfl rfl ?_
    refine wp_iload_n d_Th_bestLead_79 rfl rfl ?_
    refine wp_iload_n d_Th_bestLead_80 rfl rfl ?_
    refine wp_iload_n d_Th_bestLead_81 rfl rfl ?_
    refine wp_iconst (x := nI 1) d_Th_bestLead_82 rfl ?_
    refine wp_isub d_Th_bestLead_83 ((pk_sub (show 1 ≤ l + 1 by omega)).trans (congrArg nI (show l + 1 - 1 = l by omega))) ?_
    refine wp_invS d_Th_bestLead_84 ow_Th_bestLead lk_5_73 (by decide) mi_Th_bestLead rfl rfl (Nat.le_of_ble_eq_true rfl) rfl (Nat.le_refl _) (IH S2 _ _ zC2 (sp_hr_wf hw hiq ho) (fun S3 zC3 zf3 => ?_))
    refine wp_Ki ?_
    refine wp_ineg d_Th_bestLead_87 (rfl) ?_
    refine wp_mmax d_Th_bestLead_88 ow_Th_bestLead lk_5_81 rfl (if_sp) ?_
    refine wp_isto5 d_Th_bestLead_91 rfl ?_
    refine wp_aload d_Th_bestLead_93 rfl ?_
    refine wp_aload d_Th_bestLead_95 rfl ?_
    refine wp_invV d_Th_bestLead_97 ow_Th_bestLead lk_5_43 (by decide) mi_Fi_copyFrom rfl rfl (Nat.le_of_ble_eq_true rfl) rfl (wp_isC (O_F _ (by omega))) (Nat.le_trans (show h_Fi_copyFrom ≤ 5 from by decide) hd) (c_fcopy (fun S => O_F S hi10) (fun S => O_P S hl) (fun S => A_G S hi10) (fun S => A_R S hl) (by omega) (by omega) (by omega) ?_)
    refine wp_Kv ?_
    refine wp_iinc6 d_Th_bestLead_100 rfl (nI_add _ 1) ?_
    refine wp_goto (pc' := 33) d_Th_bestLead_103 (by decide) ?_
    exact ih _ _ (CL_back zC3 hi10 (fun j hj => sp_hr_ne q o i hj ho) (cSp_k (cSp_k s1 zf2 (fun j => ⟨by unfold cF; omega, by unfold cF; omega⟩)) zf3 (fun j => ⟨by unfold cTl; omega, by unfold cTl; omega⟩))) (((f1.tr (fr_TL (fr_LF hi10 zf2))).tr (up zf3)).tr (fcp_fr (fun j => ⟨Or.inl (by omega), Or.inl (by omega)⟩)))
theorem c_bestLead : ∀ (l o p d : Nat) (S : wp_S) (q : sp_R) (Q : Option Value → wp_S → Prop), l ≤ 4 → o < 4 → p < 4 → o ≠ p → 5 + l ≤ d → CL S q → sp_wf q → (∀ S', CL S' q → fr (cTl l) S S' → Q (some (.int (sp_ct l o p q))) S') → cl (d + 1) y_Th_bestLead [.ref 67, .int (nI o), .int (nI p), .int (nI l)] S Q := by
  intro l
  induction l with
  | zero =>
    intro o p d S q Q hl ho hp hop hd C hw K
    rw [sp_ct_0] at K
    have hd : 5 ≤ d := hd
    refine cl_in ml_Th_bestLead rfl rfl ?_
    refine wp_iload_n d_Th_bestLead_0 rfl rfl ?_
    refine wp_ifN_le (pc' := 9) d_Th_bestLead_1 (by decide) (by omega) (fun _ => ?_) (fun q => absurd q (by decide))
    refine wp_aload_n d_Th_bestLead_9 rfl rfl ?_
    refine wp_iload_n d_Th_bestLead_10 rfl rfl ?_
    refine wp_iload_n d_Th_bestLead_11 rfl rfl ?_
    refine wp_invV d_Th_bestLead_12 ow_Th_bestLead lk_5_77 (by decide) mi_Th_leadNow rfl rfl (Nat.le_of_ble_eq_true rfl) rfl (wp_isC (O_67 _)) (Nat.le_trans (show h_Th_leadNow ≤ 5 from by decide) hd) (c_leadNow C hw ho hp hop (fun S2 zf2 => ?_))
    refine wp_Ki ?_
    refine wp_reti d_Th_bestLead_15 rt_Th_bestLead ?_
    exact K _ (CL_st C zf2) (fr_TL (fr_LS zf2))
  | succ l ih =>
    intro o p d S q Q hl ho hp hop hd C hw K
    rw [sp_ct_s] at K
    obtain ⟨d, rfl⟩ : ∃ e, d = e + 1 := ⟨d - 1, by omega⟩
    have st := fun l7 => c_bl_loop (S := S) (q := q) (Q := Q) (d := d + 1) (by omega) l o p (by omega) ho hp hw (fun S q Q C hw K => ih p o d S q Q (by omega) hp ho (fun z => hop z.symm) (by omega) C hw K) K (min (sp_n q) 5) 0 S l7 (Nat.zero_add _) C fr.rf
    rw [sp_cm_0] at st
    refine cl_in ml_Th_bestLead rfl rfl ?_
    refine wp_iload_n d_Th_bestLead_0 rfl rfl ?_
    refine wp_ifN_le (pc' := 9) d_Th_bestLead_1 (by decide) (by omega) (fun h1 => absurd h1 (by omega)) (fun h1 => ?_)
    refine wp_iload_n d_Th_bestLead_4 rfl rfl ?_
    refine wp_iconst (x := nI 4) d_Th_bestLead_5 rfl ?_
    refine wp_icN_le (pc' := 16) d_Th_bestLead_6 (by decide) (by omega) (by omega) (fun h6 => ?_) (fun h6 => absurd h6 (by omega))
    refine wp_aload_n d_Th_bestLead_16 rfl rfl ?_
    refine wp_getR d_Th_bestLead_17 ow_Th_bestLead fl_5_20 (O_67 _) rfl ?_
    refine wp_iload_n d_Th_bestLead_20 rfl rfl ?_
    refine wp_iconst (x := nI 1) d_Th_bestLead_21 rfl ?_
    refine wp_isub d_Th_bestLead_22 ((pk_sub (show 1 ≤ l + 1 by omega)).trans (congrArg nI (show l + 1 - 1 = l by omega))) ?_
    refine wp_aaload d_Th_bestLead_23 rfl (f_P (by omega)) (by decide) ?_
    refine wp_asto4 d_Th_bestLead_24 rfl ?_
    refine wp_ldc (v := .int (-1000000000)) d_Th_bestLead_26 ow_Th_bestLead (by decide +kernel) ?_
    refine wp_isto5 d_Th_bestLead_28 rfl ?_
    refine wp_iconst (x := nI 0) d_Th_bestLead_30 rfl ?_
    refine wp_isto6 d_Th_bestLead_31 rfl ?_
    exact st _
theorem lead_in (l o p : Nat) (hl : l ≤ 4) (ho : o < 4) (hp : p < 4) (hop : o ≠ p) (C : CL S q) (hw : sp_wf q) (K : ∀ S', CL S' q → fr (cTl l) S S' → Q (some (.int (sp_ct l o p q))) S') : cl h_Th_leadByTurns y_Th_leadByTurns [.ref 67, .int (nI o), .int (nI p), .int (nI l)] S Q := by
  refine cl_in ml_Th_leadByTurns rfl rfl ?_
  refine wp_aload_n d_Th_leadByTurns_0 rfl rfl ?_
  refine wp_iload_n d_Th_leadByTurns_1 rfl rfl ?_
  refine wp_iload_n d_Th_leadByTurns_2 rfl rfl ?_
  refine wp_iload_n d_Th_leadByTurns_3 rfl rfl ?_
  refine wp_invS d_Th_leadByTurns_4 ow_Th_leadByTurns lk_5_73 (by decide) mi_Th_bestLead rfl rfl (Nat.le_of_ble_eq_true rfl) rfl (show h_Th_bestLead ≤ _ from by decide) (c_bestLead l o p 11 S q _ hl ho hp hop (by omega) C hw (fun S2 zC2 zf2 => ?_))
  refine wp_Ki ?_
  refine wp_reti d_Th_leadByTurns_7 rt_Th_leadByTurns ?_
  exact K S2 zC2 zf2
theorem c_turns (C : CL S q) (hw : sp_wf q) (o p n : Int32) (K : cQ S (op_turns q o p n) Q) : cl h_Fo_turns y_Fo_turns [.ref 0, .int o, .int p, .int n] S Q := by
  have hn := hw.n
  unfold op_turns at K
  by_cases h : sp_isW o 3 ∧ sp_isW p 3 ∧ o ≠ p ∧ sp_isW n 4
  · rw [sp_if_t h] at K
    have hpo := h.2.2.1
    by_cases h0 : q 0 = 0
    · rw [sp_if_t h0] at K
      refine cl_in ml_Fo_turns rfl rfl ?_
      refine wp_iload_n d_Fo_turns_0 rfl rfl ?_
      refine wp_invS d_Fo_turns_1 ow_Fo_turns lk_7_125 (by decide) mi_Fo_isOwner rfl rfl (Nat.le_of_ble_eq_true rfl) rfl (show h_Fo_isOwner ≤ _ from by decide) (c_isOwner _ ?_)
      refine wp_Ki ?_
      refine wp_ifB_eq (pc' := 28) d_Fo_turns_4 (by decide) (fun h4 => absurd h.1 h4) (fun h4 => ?_)
      refine wp_iload_n d_Fo_turns_7 rfl rfl ?_
      refine wp_invS d_Fo_turns_8 ow_Fo_turns lk_7_125 (by decide) mi_Fo_isOwner rfl rfl (Nat.le_of_ble_eq_true rfl) rfl (show h_Fo_isOwner ≤ _ from by decide) (c_isOwner _ ?_)
      refine wp_Ki ?_
      refine wp_ifB_eq (pc' := 28) d_Fo_turns_11 (by decide) (fun h11 => absurd h.2.1 h11) (fun h11 => ?_)
      refine wp_iload_n d_Fo_turns_14 rfl rfl ?_
      refine wp_iload_n d_Fo_turns_15 rfl rfl ?_
      refine wp_ic_eq (pc' := 28) d_Fo_turns_16 (by decide) (fun h16 => absurd h16 hpo) (fun h16 => ?_)
      refine wp_iload_n d_Fo_turns_19 rfl rfl ?_
      refine wp_iconst (x := nI 0) d_Fo_turns_20 rfl ?_
      refine wp_iconst (x := nI 4) d_Fo_turns_21 rfl ?_
      refine wp_invS d_Fo_turns_22 ow_Fo_turns lk_7_66 (by decide) mi_Fo_isWithin rfl rfl (Nat.le_of_ble_eq_true rfl) rfl (show h_Fo_isWithin ≤ _ from by decide) (c_isWithin _ _ _ ?_)
      refine wp_Ki ?_
      refine wp_ifB_ne (pc' := 34) d_Fo_turns_25 (by decide) (fun h25 => ?_) (fun h25 => absurd h.2.2.2 h25)
      refine wp_aload_n d_Fo_turns_34 rfl rfl ?_
      refine wp_getR d_Fo_turns_35 ow_Fo_turns fl_7_10 (O_0 _) rfl ?_
      refine wp_getI d_Fo_turns_38 ow_Fo_turns fl_7_74 (O_1 _) rfl (C.n) ?_
      refine wp_if_ne (pc' := 50) d_Fo_turns_41 (by decide) (fun h41 => absurd h0 h41) (fun h41 => ?_)
      refine wp_aload_n d_Fo_turns_44 rfl rfl ?_
      refine wp_iconst (x := nI 3) d_Fo_turns_45 rfl ?_
      refine wp_invV d_Fo_turns_46 ow_Fo_turns lk_7_70 (by decide) mi_Fo_error rfl rfl (Nat.le_of_ble_eq_true rfl) rfl (wp_isC (O_0 _)) (show h_Fo_error ≤ _ from by decide) (c_error 3 (by decide) (by decide) ?_)
      refine wp_Ki ?_
      refine wp_reti d_Fo_turns_49 rt_Fo_turns ?_
      exact cQ_er (e := 3) K (by decide) C fr.rf
    · rw [sp_if_f h0] at K
      obtain ⟨hA, hB, -, hD⟩ := h
      obtain ⟨o', ho, rfl⟩ := (i_in (by decide)).mp hA
      obtain ⟨p', hp, rfl⟩ := (i_in (by decide)).mp hB
      obtain ⟨n', hn', rfl⟩ := (i_in (by decide)).mp hD
      rw [nI_clamp (by omega), nI_clamp (by omega), nI_clamp (by omega)] at K
      have hop : o' ≠ p' := fun z => hpo (by rw [z])
      have hpos : 0 < sp_n q := by
        rcases Nat.eq_zero_or_pos (sp_n q) with z | z
        · exact absurd (hn.2.trans (by rw [z]; rfl)) h0
        · exact z
      have e : sp_if (nI n' = 0) (sp_acres q (-1) (nI o') (sp_n q) - sp_acres q (-1) (nI p') (sp_n q)) (sp_bt n' o' p' q) = sp_ct n' o' p' q := by
        cases n' with
        | zero => rw [sp_if_t (show nI 0 = 0 from rfl), sp_ct_0]
        | succ l =>
          rw [sp_if_f (fun z => absurd ((nI_eq0 (by omega)).mp z) (by omega))]
          exact (sp_ct_bt l o' p' q hw hpos (by omega) (by omega)).1.symm
      rw [e] at K
      refine cl_in ml_Fo_turns rfl rfl ?_
      refine wp_iload_n d_Fo_turns_0 rfl rfl ?_
      refine wp_invS d_Fo_turns_1 ow_Fo_turns lk_7_125 (by decide) mi_Fo_isOwner rfl rfl (Nat.le_of_ble_eq_true rfl) rfl (show h_Fo_isOwner ≤ _ from by decide) (c_isOwner _ ?_)
      refine wp_Ki ?_
      refine wp_ifB_eq (pc' := 28) d_Fo_turns_4 (by decide) (fun h4 => absurd hA h4) (fun h4 => ?_)
      refine wp_iload_n d_Fo_turns_7 rfl rfl ?_
      refine wp_invS d_Fo_turns_8 ow_Fo_turns lk_7_125 (by decide) mi_Fo_isOwner rfl rfl (Nat.le_of_ble_eq_true rfl) rfl (show h_Fo_isOwner ≤ _ from by decide) (c_isOwner _ ?_)
      refine wp_Ki ?_
      refine wp_ifB_eq (pc' := 28) d_Fo_turns_11 (by decide) (fun h11 => absurd hB h11) (fun h11 => ?_)
      refine wp_iload_n d_Fo_turns_14 rfl rfl ?_
      refine wp_iload_n d_Fo_turns_15 rfl rfl ?_
      refine wp_icN_eq (pc' := 28) d_Fo_turns_16 (by decide) (by omega) (by omega) (fun h16 => absurd h16 (by first | exact hpo | exact hop)) (fun h16 => ?_)
      refine wp_iload_n d_Fo_turns_19 rfl rfl ?_
      refine wp_iconst (x := nI 0) d_Fo_turns_20 rfl ?_
      refine wp_iconst (x := nI 4) d_Fo_turns_21 rfl ?_
      refine wp_invS d_Fo_turns_22 ow_Fo_turns lk_7_66 (by decide) mi_Fo_isWithin rfl rfl (Nat.le_of_ble_eq_true rfl) rfl (show h_Fo_isWithin ≤ _ from by decide) (c_isWithin _ _ _ ?_)
      refine wp_Ki ?_
      refine wp_ifB_ne (pc' := 34) d_Fo_turns_25 (by decide) (fun h25 => ?_) (fun h25 => absurd hD h25)
      refine wp_aload_n d_Fo_turns_34 rfl rfl ?_
      refine wp_getR d_Fo_turns_35 ow_Fo_turns fl_7_10 (O_0 _) rfl ?_
      refine wp_getI d_Fo_turns_38 ow_Fo_turns fl_7_74 (O_1 _) rfl (C.n) ?_
      refine wp_if_ne (pc' := 50) d_Fo_turns_41 (by decide) (fun h41 => ?_) (fun h41 => absurd h41 h0)
      refine wp_aload_n d_Fo_turns_50 rfl rfl ?_
      refine wp_getR d_Fo_turns_51 ow_Fo_turns fl_7_37 (O_0 _) rfl ?_
      refine wp_iload_n d_Fo_turns_54 rfl rfl ?_
      refine wp_iload_n d_Fo_turns_55 rfl rfl ?_
      refine wp_iload_n d_Fo_turns_56 rfl rfl ?_
      refine wp_invV d_Fo_turns_57 ow_Fo_turns lk_7_211 (by decide) mi_Th_leadByTurns rfl rfl (Nat.le_of_ble_eq_true rfl) rfl (wp_isC (O_67 _)) (show h_Th_leadByTurns ≤ _ from by decide) (lead_in n' o' p' hn' (by omega) (by omega) hop C hw (fun S2 zC2 zf2 => ?_))
      refine wp_Ki ?_
      refine wp_reti d_Fo_turns_60 rt_Fo_turns ?_
      exact cQ_ok K zC2 (fr_YT hn' zf2)
  · rw [sp_if_f h] at K
    refine cl_in ml_Fo_turns rfl rfl ?_
    refine wp_iload_n d_Fo_turns_0 rfl rfl ?_
    refine wp_invS d_Fo_turns_1 ow_Fo_turns lk_7_125 (by decide) mi_Fo_isOwner rfl rfl (Nat.le_of_ble_eq_true rfl) rfl (show h_Fo_isOwner ≤ _ from by decide) (c_isOwner _ ?_)
    refine wp_Ki ?_
    refine wp_ifB_eq (pc' := 28) d_Fo_turns_4 (by decide) (fun h4 => ?_) (fun h4 => ?_)
    · refine wp_aload_n d_Fo_turns_28 rfl rfl ?_
      refine wp_iconst (x := nI 1) d_Fo_turns_29 rfl ?_
      refine wp_invV d_Fo_turns_30 ow_Fo_turns lk_7_70 (by decide) mi_Fo_error rfl rfl (Nat.le_of_ble_eq_true rfl) rfl (wp_isC (O_0 _)) (show h_Fo_error ≤ _ from by decide) (c_error 1 (by decide) (by decide) ?_)
      refine wp_Ki ?_
      refine wp_reti d_Fo_turns_33 rt_Fo_turns ?_
      exact cQ_er (e := 1) K (by decide) C fr.rf
    · refine wp_iload_n d_Fo_turns_7 rfl rfl ?_
      refine wp_invS d_Fo_turns_8 ow_Fo_turns lk_7_125 (by decide) mi_Fo_isOwner rfl rfl (Nat.le_of_ble_eq_true rfl) rfl (show h_Fo_isOwner ≤ _ from by decide) (c_isOwner _ ?_)
      refine wp_Ki ?_
      refine wp_ifB_eq (pc' := 28) d_Fo_turns_11 (by decide) (fun h11 => ?_) (fun h11 => ?_)
      · refine wp_aload_n d_Fo_turns_28 rfl rfl ?_
        refine wp_iconst (x := nI 1) d_Fo_turns_29 rfl ?_
        refine wp_invV d_Fo_turns_30 ow_Fo_turns lk_7_70 (by decide) mi_Fo_error rfl rfl (Nat.le_of_ble_eq_true rfl) rfl (wp_isC (O_0 _)) (show h_Fo_error ≤ _ from by decide) (c_error 1 (by decide) (by decide) ?_)
        refine wp_Ki ?_
        refine wp_reti d_Fo_turns_33 rt_Fo_turns ?_
        exact cQ_er (e := 1) K (by decide) C fr.rf
      · refine wp_iload_n d_Fo_turns_14 rfl rfl ?_
        refine wp_iload_n d_Fo_turns_15 rfl rfl ?_
        refine wp_ic_eq (pc' := 28) d_Fo_turns_16 (by decide) (fun h16 => ?_) (fun h16 => ?_)
        · refine wp_aload_n d_Fo_turns_28 rfl rfl ?_
          refine wp_iconst (x := nI 1) d_Fo_turns_29 rfl ?_
          refine wp_invV d_Fo_turns_30 ow_Fo_turns lk_7_70 (by decide) mi_Fo_error rfl rfl (Nat.le_of_ble_eq_true rfl) rfl (wp_isC (O_0 _)) (show h_Fo_error ≤ _ from by decide) (c_error 1 (by decide) (by decide) ?_)
          refine wp_Ki ?_
          refine wp_reti d_Fo_turns_33 rt_Fo_turns ?_
          exact cQ_er (e := 1) K (by decide) C fr.rf
        · refine wp_iload_n d_Fo_turns_19 rfl rfl ?_
          refine wp_iconst (x := nI 0) d_Fo_turns_20 rfl ?_
          refine wp_iconst (x := nI 4) d_Fo_turns_21 rfl ?_
          refine wp_invS d_Fo_turns_22 ow_Fo_turns lk_7_66 (by decide) mi_Fo_isWithin rfl rfl (Nat.le_of_ble_eq_true rfl) rfl (show h_Fo_isWithin ≤ _ from by decide) (c_isWithin _ _ _ ?_)
          refine wp_Ki ?_
          refine wp_ifB_ne (pc' := 34) d_Fo_turns_25 (by decide) (fun h25 => absurd ⟨h4, h11, h16, h25⟩ h) (fun h25 => ?_)
          refine wp_aload_n d_Fo_turns_28 rfl rfl ?_
          refine wp_iconst (x := nI 1) d_Fo_turns_29 rfl ?_
          refine wp_invV d_Fo_turns_30 ow_Fo_turns lk_7_70 (by decide) mi_Fo_error rfl rfl (Nat.le_of_ble_eq_true rfl) rfl (wp_isC (O_0 _)) (show h_Fo_error ≤ _ from by decide) (c_error 1 (by decide) (by decide) ?_)
          refine wp_Ki ?_
          refine wp_reti d_Fo_turns_33 rt_Fo_turns ?_
          exact cQ_er (e := 1) K (by decide) C fr.rf
end CK
