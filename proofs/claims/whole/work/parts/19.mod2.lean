/-! the reference: greatest, saysNow, doesHear -/
def sp_gm (w t : Nat → Int32) (k : Nat) : Int32 := match sp_gr w t k with
  | none => nI 0
  | some b => w b
theorem sp_ov_lt {w t : Nat → Int32} {k : Nat} (hk : k < 2 ^ 31) : sp_ov (sp_gr w t k) < 0 ↔ sp_gr w t k = none := by
  cases h : sp_gr w t k with
  | none => exact ⟨fun _ => rfl, fun _ => by decide⟩
  | some b =>
    have hb := sp_gr_lt w t k b h
    exact ⟨fun q => absurd q (nI_pos (by omega)), fun q => by cases q⟩
theorem sp_gr_leaf {w t : Nat → Int32} {k : Nat} {b m : Int32} (h : (t k ≤ 0 ∧ b = sp_ov (sp_gr w t k) ∧ m = sp_gm w t k) ∨ (¬ t k ≤ 0 ∧ (sp_gr w t k = none ∨ ¬ w k ≤ sp_gm w t k) ∧ b = nI k ∧ m = w k) ∨ (¬ t k ≤ 0 ∧ sp_gr w t k ≠ none ∧ w k ≤ sp_gm w t k ∧ b = sp_ov (sp_gr w t k) ∧ m = sp_gm w t k)) : b = sp_ov (sp_gr w t (k + 1)) ∧ m = sp_gm w t (k + 1) := by
  rcases h with ⟨h1, rfl, rfl⟩ | ⟨h1, h2, rfl, rfl⟩ | ⟨h1, h2, h3, rfl, rfl⟩
  · have e : sp_gr w t (k + 1) = sp_gr w t k := by
      simp only [sp_gr]
      cases hg : sp_gr w t k with
      | none => dsimp only; rw [if_neg (Int32.not_lt.mpr h1)]
      | some c => dsimp only; rw [if_neg (fun q => absurd q.1 (Int32.not_lt.mpr h1))]
    unfold sp_gm
    rw [e]
    exact ⟨rfl, rfl⟩
  · have h1 := Int32.not_le.mp h1
    have e : sp_gr w t (k + 1) = some k := by
      simp only [sp_gr]
      cases hg : sp_gr w t k with
      | none => dsimp only; rw [if_pos h1]
      | some c =>
        dsimp only
        rcases h2 with h2 | h2
        · rw [hg] at h2; cases h2
        · unfold sp_gm at h2
          rw [hg] at h2
          rw [if_pos ⟨h1, Int32.not_le.mp h2⟩]
    unfold sp_gm
    rw [e]
    exact ⟨rfl, rfl⟩
  · have e : sp_gr w t (k + 1) = sp_gr w t k := by
      simp only [sp_gr]
      cases hg : sp_gr w t k with
      | none => exact absurd hg h2
      | some c =>
        unfold sp_gm at h3
        rw [hg] at h3
        dsimp only
        rw [if_neg (fun q => absurd q.2 (Int32.not_lt.mpr h3))]
    unfold sp_gm
    rw [e]
    exact ⟨rfl, rfl⟩
theorem m_gr_loop {S : wp_S} {Q : Option Value → wp_S → Prop} {q : sp_R} (hq : S.2 k_Mo_row = q) (i : Nat) (hi : i < 10) (bf : Int32) (w : Nat → Int32) (hb : (bf ≠ 0 ∧ w = sp_fear q) ∨ (bf = 0 ∧ w = sp_told q i)) (kk : Q (some (.int (sp_ov (sp_gr w (sp_told q i) 4)))) S) : ∀ (n k : Nat) (l6 l7 : Option Value), k + n = 4 → wp (h_Mo_greatest - 1) y_Mo_greatest 8 [some (.ref 91), some (.int (nI i)), some (.int bf), some (.int (sp_ov (sp_gr w (sp_told q i) k))), some (.int (sp_gm w (sp_told q i) k)), some (.int (nI k)), l6, l7] [] S Q := by
  intro n
  induction n with
  | zero =>
    intro k l6 l7 hk
    obtain rfl : k = 4 := by omega
    refine wp_iload d_Mo_greatest_8 rfl ?_
    refine wp_iconst (x := nI 4) d_Mo_greatest_10 rfl ?_
    refine wp_icN_ge (pc' := 106) d_Mo_greatest_11 (by decide) (by omega) (by omega) (fun _ => ?_) (fun q => absurd q (by decide))
    refine wp_iload_n d_Mo_greatest_106 rfl rfl ?_
    refine wp_reti d_Mo_greatest_107 rt_Mo_greatest ?_
    exact kk
  | succ n ih =>
    intro k l6 l7 hk
    have step : ∀ (b m : Int32), ((sp_told q i k ≤ 0 ∧ b = sp_ov (sp_gr w (sp_told q i) k) ∧ m = sp_gm w (sp_told q i) k) ∨ (¬ sp_told q i k ≤ 0 ∧ (sp_gr w (sp_told q i) k = none ∨ ¬ w k ≤ sp_gm w (sp_told q i) k) ∧ b = nI k ∧ m = w k) ∨ (¬ sp_told q i k ≤ 0 ∧ sp_gr w (sp_told q i) k ≠ none ∧ w k ≤ sp_gm w (sp_told q i) k ∧ b = sp_ov (sp_gr w (sp_told q i) k) ∧ m = sp_gm w (sp_told q i) k)) → ∀ l6 l7, wp (h_Mo_greatest - 1) y_Mo_greatest 8 [some (.ref 91), some (.int (nI i)), some (.int bf), some (.int b), some (.int m), some (.int (nI (k + 1))), l6, l7] [] S Q := by
      intro b m h l6 l7
      obtain ⟨rfl, rfl⟩ := sp_gr_leaf h
      exact ih (k + 1) l6 l7 (by omega)
    have L41 : wp (h_Mo_greatest - 1) y_Mo_greatest 41 [some (.ref 91), some (.int (nI i)), some (.int bf), some (.int (sp_ov (sp_gr w (sp_told q i) k))), some (.int (sp_gm w (sp_told q i) k)), some (.int (nI k)), l6, l7] [.int (w k)] S Q := by
      refine wp_isto6 d_Mo_greatest_41 rfl ?_
      refine wp_aload_n d_Mo_greatest_43 rfl rfl ?_
      refine wp_iload_n d_Mo_greatest_44 rfl rfl ?_
      refine wp_bipush (x := nI 6) d_Mo_greatest_45 (by decide) ?_
      refine wp_iload d_Mo_greatest_47 rfl ?_
      refine wp_iadd d_Mo_greatest_49 (nI_add _ _) ?_
      refine wp_invV d_Mo_greatest_50 ow_Mo_greatest lk_8_72 (by decide) mi_Mo_its rfl rfl (Nat.le_of_ble_eq_true rfl) rfl (wp_isC (O_91 _)) (show h_Mo_its ≤ _ from by decide) (m_its hq i _ (by omega) ?_)
      refine wp_Ki ?_
      refine wp_if_le (pc' := 71) d_Mo_greatest_53 (by decide) (fun h53 => ?_) (fun h53 => ?_)
      · refine wp_iconst (x := nI 0) d_Mo_greatest_71 rfl ?_
        refine wp_isto7 d_Mo_greatest_72 rfl ?_
        refine wp_iload d_Mo_greatest_74 rfl ?_
        refine wp_ifN_eq (pc' := 84) d_Mo_greatest_76 (by decide) (by omega) (fun _ => ?_) (fun q => absurd q (by decide))
        refine wp_iload_n d_Mo_greatest_84 rfl rfl ?_
        refine wp_iston3 d_Mo_greatest_85 rfl ?_
        refine wp_iload d_Mo_greatest_86 rfl ?_
        refine wp_ifN_eq (pc' := 96) d_Mo_greatest_88 (by decide) (by omega) (fun _ => ?_) (fun q => absurd q (by decide))
        refine wp_iload d_Mo_greatest_96 rfl ?_
        refine wp_isto4 d_Mo_greatest_98 rfl ?_
        refine wp_iinc5 d_Mo_greatest_100 rfl (nI_add _ 1) ?_
        refine wp_goto (pc' := 8) d_Mo_greatest_103 (by decide) ?_
        exact step _ _ (by first | exact Or.inl ⟨h53, rfl, rfl⟩ | exact Or.inr (Or.inl ⟨h53, Or.inl ((sp_ov_lt (by omega)).mp h57), rfl, rfl⟩) | exact Or.inr (Or.inl ⟨h53, Or.inr h64, rfl, rfl⟩) | exact Or.inr (Or.inr ⟨h53, fun z => h57 ((sp_ov_lt (by omega)).mpr z), h64, rfl, rfl⟩)) _ _
      · refine wp_iload_n d_Mo_greatest_56 rfl rfl ?_
        refine wp_if_lt (pc' := 67) d_Mo_greatest_57 (by decide) (fun h57 => ?_) (fun h57 => ?_)
        · refine wp_iconst (x := nI 1) d_Mo_greatest_67 rfl ?_
          refine wp_goto (pc' := 72) d_Mo_greatest_68 (by decide) ?_
          refine wp_isto7 d_Mo_greatest_72 rfl ?_
          refine wp_iload d_Mo_greatest_74 rfl ?_
          refine wp_ifN_eq (pc' := 84) d_Mo_greatest_76 (by decide) (by omega) (fun q => absurd q (by decide)) (fun _ => ?_)
          refine wp_iload d_Mo_greatest_79 rfl ?_
          refine wp_goto (pc' := 85) d_Mo_greatest_81 (by decide) ?_
          refine wp_iston3 d_Mo_greatest_85 rfl ?_
          refine wp_iload d_Mo_greatest_86 rfl ?_
          refine wp_ifN_eq (pc' := 96) d_Mo_greatest_88 (by decide) (by omega) (fun q => absurd q (by decide)) (fun _ => ?_)
          refine wp_iload d_Mo_greatest_91 rfl ?_
          refine wp_goto (pc' := 98) d_Mo_greatest_93 (by decide) ?_
          refine wp_isto4 d_Mo_greatest_98 rfl ?_
          refine wp_iinc5 d_Mo_greatest_100 rfl (nI_add _ 1) ?_
          refine wp_goto (pc' := 8) d_Mo_greatest_103 (by decide) ?_
          exact step _ _ (by first | exact Or.inl ⟨h53, rfl, rfl⟩ | exact Or.inr (Or.inl ⟨h53, Or.inl ((sp_ov_lt (by omega)).mp h57), rfl, rfl⟩) | exact Or.inr (Or.inl ⟨h53, Or.inr h64, rfl, rfl⟩) | exact Or.inr (Or.inr ⟨h53, fun z => h57 ((sp_ov_lt (by omega)).mpr z), h64, rfl, rfl⟩)) _ _
        · refine wp_iload d_Mo_greatest_60 rfl ?_
          refine wp_iload d_Mo_greatest_62 rfl ?_
          refine wp_ic_le (pc' := 71) d_Mo_greatest_64 (by decide) (fun h64 => ?_) (fun h64 => ?_)
          · refine wp_iconst (x := nI 0) d_Mo_greatest_71 rfl ?_
            refine wp_isto7 d_Mo_greatest_72 rfl ?_
            refine wp_iload d_Mo_greatest_74 rfl ?_
            refine wp_ifN_eq (pc' := 84) d_Mo_greatest_76 (by decide) (by omega) (fun _ => ?_) (fun q => absurd q (by decide))
            refine wp_iload_n d_Mo_greatest_84 rfl rfl ?_
            refine wp_iston3 d_Mo_greatest_85 rfl ?_
            refine wp_iload d_Mo_greatest_86 rfl ?_
            refine wp_ifN_eq (pc' := 96) d_Mo_greatest_88 (by decide) (by omega) (fun _ => ?_) (fun q => absurd q (by decide))
            refine wp_iload d_Mo_greatest_96 rfl ?_
            refine wp_isto4 d_Mo_greatest_98 rfl ?_
            refine wp_iinc5 d_Mo_greatest_100 rfl (nI_add _ 1) ?_
            refine wp_goto (pc' := 8) d_Mo_greatest_103 (by decide) ?_
            exact step _ _ (by first | exact Or.inl ⟨h53, rfl, rfl⟩ | exact Or.inr (Or.inl ⟨h53, Or.inl ((sp_ov_lt (by omega)).mp h57), rfl, rfl⟩) | exact Or.inr (Or.inl ⟨h53, Or.inr h64, rfl, rfl⟩) | exact Or.inr (Or.inr ⟨h53, fun z => h57 ((sp_ov_lt (by omega)).mpr z), h64, rfl, rfl⟩)) _ _
          · refine wp_iconst (x := nI 1) d_Mo_greatest_67 rfl ?_
            refine wp_goto (pc' := 72) d_Mo_greatest_68 (by decide) ?_
            refine wp_isto7 d_Mo_greatest_72 rfl ?_
            refine wp_iload d_Mo_greatest_74 rfl ?_
            refine wp_ifN_eq (pc' := 84) d_Mo_greatest_76 (by decide) (by omega) (fun q => absurd q (by decide)) (fun _ => ?_)
            refine wp_iload d_Mo_greatest_79 rfl ?_
            refine wp_goto (pc' := 85) d_Mo_greatest_81 (by decide) ?_
            refine wp_iston3 d_Mo_greatest_85 rfl ?_
            refine wp_iload d_Mo_greatest_86 rfl ?_
            refine wp_ifN_eq (pc' := 96) d_Mo_greatest_88 (by decide) (by omega) (fun q => absurd q (by decide)) (fun _ => ?_)
            refine wp_iload d_Mo_greatest_91 rfl ?_
            refine wp_goto (pc' := 98) d_Mo_greatest_93 (by decide) ?_
            refine wp_isto4 d_Mo_greatest_98 rfl ?_
            refine wp_iinc5 d_Mo_greatest_100 rfl (nI_add _ 1) ?_
            refine wp_goto (pc' := 8) d_Mo_greatest_103 (by decide) ?_
            exact step _ _ (by first | exact Or.inl ⟨h53, rfl, rfl⟩ | exact Or.inr (Or.inl ⟨h53, Or.inl ((sp_ov_lt (by omega)).mp h57), rfl, rfl⟩) | exact Or.inr (Or.inl ⟨h53, Or.inr h64, rfl, rfl⟩) | exact Or.inr (Or.inr ⟨h53, fun z => h57 ((sp_ov_lt (by omega)).mpr z), h64, rfl, rfl⟩)) _ _
    refine wp_iload d_Mo_greatest_8 rfl ?_
    refine wp_iconst (x := nI 4) d_Mo_greatest_10 rfl ?_
    refine wp_icN_ge (pc' := 106) d_Mo_greatest_11 (by decide) (by omega) (by omega) (fun h11 => absurd h11 (by omega)) (fun h11 => ?_)
    refine wp_iload_n d_Mo_greatest_14 rfl rfl ?_
    refine wp_if_eq (pc' := 31) d_Mo_greatest_15 (by decide) (fun h15 => ?_) (fun h15 => ?_)
    · refine wp_aload_n d_Mo_greatest_31 rfl rfl ?_
      refine wp_iload_n d_Mo_greatest_32 rfl rfl ?_
      refine wp_bipush (x := nI 6) d_Mo_greatest_33 (by decide) ?_
      refine wp_iload d_Mo_greatest_35 rfl ?_
      refine wp_iadd d_Mo_greatest_37 (nI_add _ _) ?_
      refine wp_invV d_Mo_greatest_38 ow_Mo_greatest lk_8_72 (by decide) mi_Mo_its rfl rfl (Nat.le_of_ble_eq_true rfl) rfl (wp_isC (O_91 _)) (show h_Mo_its ≤ _ from by decide) (m_its hq i _ (by omega) ?_)
      refine wp_Ki ?_
      first
      | exact (by obtain ⟨h1, h2⟩ := hb.resolve_left (fun z => z.1 h15); subst h2; exact L41)
      | exact (by obtain ⟨h1, h2⟩ := hb.resolve_right (fun z => h15 z.1); subst h2; subst hq; exact L41)
    · refine wp_aload_n d_Mo_greatest_18 rfl rfl ?_
      refine wp_getR d_Mo_greatest_19 ow_Mo_greatest fl_8_7 (O_91 _) rfl ?_
      refine wp_bipush (x := nI 9) d_Mo_greatest_22 (by decide) ?_
      refine wp_iload d_Mo_greatest_24 rfl ?_
      refine wp_iadd d_Mo_greatest_26 (nI_add _ _) ?_
      refine wp_iaload d_Mo_greatest_27 (A_92 _) (by omega) (by decide) (rfl) ?_
      refine wp_goto (pc' := 41) d_Mo_greatest_28 (by decide) ?_
      first
      | exact (by obtain ⟨h1, h2⟩ := hb.resolve_left (fun z => z.1 h15); subst h2; exact L41)
      | exact (by obtain ⟨h1, h2⟩ := hb.resolve_right (fun z => h15 z.1); subst h2; subst hq; exact L41)

theorem m_greatest {S : wp_S} {Q : Option Value → wp_S → Prop} {q : sp_R} (hq : S.2 k_Mo_row = q) (i : Nat) (hi : i < 10) (bf : Int32) (w : Nat → Int32) (hb : (bf ≠ 0 ∧ w = sp_fear q) ∨ (bf = 0 ∧ w = sp_told q i)) (k : Q (some (.int (sp_ov (sp_gr w (sp_told q i) 4)))) S) : cl h_Mo_greatest y_Mo_greatest [.ref k_Mo, .int (nI i), .int bf] S Q := by
  refine cl_in ml_Mo_greatest rfl rfl ?_
  refine wp_iconst (x := -1) d_Mo_greatest_0 rfl ?_
  refine wp_iston3 d_Mo_greatest_1 rfl ?_
  refine wp_iconst (x := nI 0) d_Mo_greatest_2 rfl ?_
  refine wp_isto4 d_Mo_greatest_3 rfl ?_
  refine wp_iconst (x := nI 0) d_Mo_greatest_5 rfl ?_
  refine wp_isto5 d_Mo_greatest_6 rfl ?_
  exact m_gr_loop hq i hi bf w hb k 4 0 none none rfl
theorem sp_ix {k : Nat} (hk : k < 7) {P : Nat → Prop} (h0 : P 0) (h1 : P 1) (h2 : P 2) (h3 : P 3) (h4 : P 4) (h5 : P 5) (h6 : P 6) : P k := by
  match k, hk with
  | 0, _ => exact h0
  | 1, _ => exact h1
  | 2, _ => exact h2
  | 3, _ => exact h3
  | 4, _ => exact h4
  | 5, _ => exact h5
  | 6, _ => exact h6
  | n + 7, h => exact absurd h (by omega)
theorem m_doesHear {S : wp_S} {Q : Option Value → wp_S → Prop} {q : sp_R} (hq : S.2 k_Mo_row = q) (i : Nat) (hi : i < 10) (hw : sp_fw q i) (k : Q (some (.int (bi (sp_kd q i ≠ 1 ∧ sp_kd q i ≠ 4 ∧ (sp_kd q i ≠ 6 ∨ sp_m q i % 2 = 1))))) S) : cl h_Mo_doesHear y_Mo_doesHear [.ref k_Mo, .int (nI i)] S Q := by
  obtain ⟨g1, g2⟩ := hw.kd
  obtain ⟨g3, g4⟩ := hw.m
  refine cl_in ml_Mo_doesHear rfl rfl ?_
  refine wp_aload_n d_Mo_doesHear_0 rfl rfl ?_
  refine wp_iload_n d_Mo_doesHear_1 rfl rfl ?_
  refine wp_iconst (x := nI 0) d_Mo_doesHear_2 rfl ?_
  refine wp_invV d_Mo_doesHear_3 ow_Mo_doesHear lk_8_72 (by decide) mi_Mo_its rfl rfl (Nat.le_of_ble_eq_true rfl) rfl (wp_isC (O_91 _)) (show h_Mo_its ≤ _ from by decide) (m_its hq i 0 (by omega) (lf_i g2 ?_))
  refine wp_Ki ?_
  refine wp_iston2 d_Mo_doesHear_6 rfl ?_
  refine wp_iload_n d_Mo_doesHear_7 rfl rfl ?_
  refine wp_iconst (x := nI 1) d_Mo_doesHear_8 rfl ?_
  refine wp_icN_eq (pc' := 39) d_Mo_doesHear_9 (by decide) (by omega) (by omega) (fun h9 => ?_) (fun h9 => ?_)
  · refine wp_iconst (x := nI 0) d_Mo_doesHear_39 rfl ?_
    refine wp_retz d_Mo_doesHear_40 rt_Mo_doesHear (by first | exact Or.inl rfl | exact Or.inr rfl) ?_
    exact lf_i (x := 0) (bi_f (fun z => z.1 h9)).symm k
  · refine wp_iload_n d_Mo_doesHear_12 rfl rfl ?_
    refine wp_iconst (x := nI 4) d_Mo_doesHear_13 rfl ?_
    refine wp_icN_eq (pc' := 39) d_Mo_doesHear_14 (by decide) (by omega) (by omega) (fun h14 => ?_) (fun h14 => ?_)
    · refine wp_iconst (x := nI 0) d_Mo_doesHear_39 rfl ?_
      refine wp_retz d_Mo_doesHear_40 rt_Mo_doesHear (by first | exact Or.inl rfl | exact Or.inr rfl) ?_
      exact lf_i (x := 0) (bi_f (fun z => z.2.1 h14)).symm k
    · refine wp_iload_n d_Mo_doesHear_17 rfl rfl ?_
      refine wp_bipush (x := nI 6) d_Mo_doesHear_18 (by decide) ?_
      refine wp_icN_ne (pc' := 35) d_Mo_doesHear_20 (by decide) (by omega) (by omega) (fun h20 => ?_) (fun h20 => ?_)
      · refine wp_iconst (x := nI 1) d_Mo_doesHear_35 rfl ?_
        refine wp_goto (pc' := 40) d_Mo_doesHear_36 (by decide) ?_
        refine wp_retz d_Mo_doesHear_40 rt_Mo_doesHear (by first | exact Or.inl rfl | exact Or.inr rfl) ?_
        exact lf_i (x := 1) (bi_t ⟨h9, h14, Or.inl h20⟩).symm k
      · refine wp_aload_n d_Mo_doesHear_23 rfl rfl ?_
        refine wp_iload_n d_Mo_doesHear_24 rfl rfl ?_
        refine wp_iconst (x := nI 1) d_Mo_doesHear_25 rfl ?_
        refine wp_invV d_Mo_doesHear_26 ow_Mo_doesHear lk_8_72 (by decide) mi_Mo_its rfl rfl (Nat.le_of_ble_eq_true rfl) rfl (wp_isC (O_91 _)) (show h_Mo_its ≤ _ from by decide) (m_its hq i 1 (by omega) (lf_i g4 ?_))
        refine wp_Ki ?_
        refine wp_iconst (x := nI 2) d_Mo_doesHear_29 rfl ?_
        refine wp_iremN d_Mo_doesHear_30 (by omega) (by omega) (by omega) ?_
        refine wp_iconst (x := nI 1) d_Mo_doesHear_31 rfl ?_
        refine wp_icN_ne (pc' := 39) d_Mo_doesHear_32 (by decide) (by omega) (by omega) (fun h32 => ?_) (fun h32 => ?_)
        · refine wp_iconst (x := nI 0) d_Mo_doesHear_39 rfl ?_
          refine wp_retz d_Mo_doesHear_40 rt_Mo_doesHear (by first | exact Or.inl rfl | exact Or.inr rfl) ?_
          exact lf_i (x := 0) (bi_f (fun z => by rcases z.2.2 with z | z; exact z h20; exact h32 z)).symm k
        · refine wp_iconst (x := nI 1) d_Mo_doesHear_35 rfl ?_
          refine wp_goto (pc' := 40) d_Mo_doesHear_36 (by decide) ?_
          refine wp_retz d_Mo_doesHear_40 rt_Mo_doesHear (by first | exact Or.inl rfl | exact Or.inr rfl) ?_
          exact lf_i (x := 1) (bi_t ⟨h9, h14, Or.inr h32⟩).symm k
theorem m_says_loop {S : wp_S} {Q : Option Value → wp_S → Prop} {q : sp_R} {mu : Int32} (hq : S.2 k_Mo_row = q) (hmu : S.2 k_Mo j_Mo_mute = mu) (a : Int32) (l3 : Option Value) : ∀ i, (∀ j, j ≤ i → sp_fw q j) → i < 10 → wp (h_Mo_saysNow - 1) y_Mo_saysNow 31 [some (.ref 91), some (.int a), some (.int (nI (sp_ch q mu i))), l3] [] S Q → wp (h_Mo_saysNow - 1) y_Mo_saysNow 2 [some (.ref 91), some (.int a), some (.int (nI i)), l3] [] S Q := by
  intro i
  induction i with
  | zero =>
    intro hw hi k
    refine wp_iload_n d_Mo_saysNow_2 rfl rfl ?_
    refine wp_ifN_le (pc' := 31) d_Mo_saysNow_3 (by decide) (by omega) (fun _ => ?_) (fun q => absurd q (by decide))
    exact k
  | succ i ih =>
    intro hw hi k
    obtain ⟨g1, g2⟩ := (hw (i + 1) (Nat.le_refl _)).kd
    have e : (nI (i + 1) ≠ mu ∧ sp_kd q (i + 1) = 6) ∨ sp_ch q mu (i + 1) = i + 1 := by
      by_cases h : nI (i + 1) ≠ mu ∧ sp_kd q (i + 1) = 6
      · exact Or.inl h
      · exact Or.inr (by unfold sp_ch; rw [if_neg h])
    refine wp_iload_n d_Mo_saysNow_2 rfl rfl ?_
    refine wp_ifN_le (pc' := 31) d_Mo_saysNow_3 (by decide) (by omega) (fun h3 => absurd h3 (by omega)) (fun h3 => ?_)
    refine wp_iload_n d_Mo_saysNow_6 rfl rfl ?_
    refine wp_aload_n d_Mo_saysNow_7 rfl rfl ?_
    refine wp_getI d_Mo_saysNow_8 ow_Mo_saysNow fl_8_25 (O_91 _) rfl (hmu) ?_
    refine wp_ic_eq (pc' := 31) d_Mo_saysNow_11 (by decide) (fun h11 => ?_) (fun h11 => ?_)
    · rcases e with e | e
      · first | exact absurd h11 e.1 | exact absurd e.2 h22
      · rw [e] at k
        exact k
    · refine wp_aload_n d_Mo_saysNow_14 rfl rfl ?_
      refine wp_iload_n d_Mo_saysNow_15 rfl rfl ?_
      refine wp_iconst (x := nI 0) d_Mo_saysNow_16 rfl ?_
      refine wp_invV d_Mo_saysNow_17 ow_Mo_saysNow lk_8_72 (by decide) mi_Mo_its rfl rfl (Nat.le_of_ble_eq_true rfl) rfl (wp_isC (O_91 _)) (show h_Mo_its ≤ _ from by decide) (m_its hq (i + 1) 0 (by omega) (lf_i g2 ?_))
      refine wp_Ki ?_
      refine wp_bipush (x := nI 6) d_Mo_saysNow_20 (by decide) ?_
      refine wp_icN_ne (pc' := 31) d_Mo_saysNow_22 (by decide) (by omega) (by omega) (fun h22 => ?_) (fun h22 => ?_)
      · rcases e with e | e
        · first | exact absurd h11 e.1 | exact absurd e.2 h22
        · rw [e] at k
          exact k
      · refine wp_iinc2 d_Mo_saysNow_25 rfl (pk_m1 _) ?_
        refine wp_goto (pc' := 2) d_Mo_saysNow_28 (by decide) ?_
        refine ih (fun j hj => hw j (by omega)) (by omega) ?_
        rw [show sp_ch q mu (i + 1) = sp_ch q mu i from by simp only [sp_ch]; rw [if_pos ⟨h11, h22⟩]] at k
        exact k
theorem m_saysNow {S : wp_S} {Q : Option Value → wp_S → Prop} {q : sp_R} {mu : Int32} (hq : S.2 k_Mo_row = q) (hmu : S.2 k_Mo j_Mo_mute = mu) (i : Nat) (hi : i < 10) (hw : ∀ j, j ≤ i → sp_fw q j) (k : Q (some (.int (sp_says q mu i))) S) : cl h_Mo_saysNow y_Mo_saysNow [.ref k_Mo, .int (nI i)] S Q := by
  have hj := sp_ch_le q mu i
  refine cl_in ml_Mo_saysNow rfl rfl ?_
  refine wp_iload_n d_Mo_saysNow_0 rfl rfl ?_
  refine wp_iston2 d_Mo_saysNow_1 rfl ?_
  refine m_says_loop hq hmu _ _ i hw hi ?_
  unfold sp_says at k
  generalize sp_ch q mu i = j at hj k ⊢
  obtain ⟨g1, g2⟩ := (hw j hj).kd
  obtain ⟨g3, g4⟩ := (hw j hj).m
  have key : ¬ nI j = mu → wp (h_Mo_saysNow - 1) y_Mo_saysNow 54 [some (.ref 91), some (.int (nI i)), some (.int (nI j)), some (.int (nI (sp_m q j)))] [.int (nI (sp_kd q j))] S Q := by
    intro hne
    rw [if_neg hne] at k
    unfold sp_self at k
    generalize sp_m q j = mm at g3 g4 k ⊢
    generalize sp_kd q j = kd at g1 g2 k ⊢
    clear g2
    rcases (show kd = 0 ∨ kd = 1 ∨ kd = 2 ∨ kd = 3 ∨ kd = 4 ∨ kd = 5 ∨ kd = 6 by omega) with rfl | rfl | rfl | rfl | rfl | rfl | rfl
    · refine wp_td (pc' := 140) d_Mo_saysNow_54 (by decide) (by decide) ?_
      refine wp_aload_n d_Mo_saysNow_140 rfl rfl ?_
      refine wp_iload_n d_Mo_saysNow_141 rfl rfl ?_
      refine wp_iconst (x := nI 5) d_Mo_saysNow_142 rfl ?_
      refine wp_invV d_Mo_saysNow_143 ow_Mo_saysNow lk_8_72 (by decide) mi_Mo_its rfl rfl (Nat.le_of_ble_eq_true rfl) rfl (wp_isC (O_91 _)) (show h_Mo_its ≤ _ from by decide) (m_its hq j _ (by omega) ?_)
      refine wp_Ki ?_
      refine wp_reti d_Mo_saysNow_146 rt_Mo_saysNow ?_
      exact k
    · refine wp_ts (pc' := 92) d_Mo_saysNow_54 (by decide) rfl (by decide) ?_
      refine wp_iload_n d_Mo_saysNow_92 rfl rfl ?_
      refine wp_iconst (x := nI 4) d_Mo_saysNow_93 rfl ?_
      refine wp_iremN d_Mo_saysNow_94 (by omega) (by omega) (by omega) ?_
      refine wp_reti d_Mo_saysNow_95 rt_Mo_saysNow ?_
      exact k
    · refine wp_ts (pc' := 109) d_Mo_saysNow_54 (by decide) rfl (by decide) ?_
      refine wp_aload_n d_Mo_saysNow_109 rfl rfl ?_
      refine wp_iload_n d_Mo_saysNow_110 rfl rfl ?_
      refine wp_iconst (x := nI 1) d_Mo_saysNow_111 rfl ?_
      refine wp_invV d_Mo_saysNow_112 ow_Mo_saysNow lk_8_76 (by decide) mi_Mo_greatest rfl rfl (Nat.le_of_ble_eq_true rfl) rfl (wp_isC (O_91 _)) (show h_Mo_greatest ≤ _ from by decide) (m_greatest hq j (by omega) _ _ (Or.inl ⟨by decide, rfl⟩) ?_)
      refine wp_Ki ?_
      refine wp_reti d_Mo_saysNow_115 rt_Mo_saysNow ?_
      exact k
    · refine wp_ts (pc' := 133) d_Mo_saysNow_54 (by decide) rfl (by decide) ?_
      refine wp_aload_n d_Mo_saysNow_133 rfl rfl ?_
      refine wp_iload_n d_Mo_saysNow_134 rfl rfl ?_
      refine wp_iconst (x := nI 4) d_Mo_saysNow_135 rfl ?_
      refine wp_invV d_Mo_saysNow_136 ow_Mo_saysNow lk_8_72 (by decide) mi_Mo_its rfl rfl (Nat.le_of_ble_eq_true rfl) rfl (wp_isC (O_91 _)) (show h_Mo_its ≤ _ from by decide) (m_its hq j _ (by omega) ?_)
      refine wp_Ki ?_
      refine wp_reti d_Mo_saysNow_139 rt_Mo_saysNow ?_
      exact k
    · refine wp_ts (pc' := 96) d_Mo_saysNow_54 (by decide) rfl (by decide) ?_
      refine wp_iload_n d_Mo_saysNow_96 rfl rfl ?_
      refine wp_iload_n d_Mo_saysNow_97 rfl rfl ?_
      refine wp_icN_ge (pc' := 107) d_Mo_saysNow_98 (by decide) (by omega) (by omega) (fun h98 => ?_) (fun h98 => ?_)
      · refine wp_iconst (x := -1) d_Mo_saysNow_107 rfl ?_
        refine wp_reti d_Mo_saysNow_108 rt_Mo_saysNow ?_
        exact lf_i (by rw [if_neg (by decide), if_pos rfl, if_neg (by omega)]) k
      · refine wp_iload_n d_Mo_saysNow_101 rfl rfl ?_
        refine wp_iconst (x := nI 4) d_Mo_saysNow_102 rfl ?_
        refine wp_iremN d_Mo_saysNow_103 (by omega) (by omega) (by omega) ?_
        refine wp_goto (pc' := 108) d_Mo_saysNow_104 (by decide) ?_
        refine wp_reti d_Mo_saysNow_108 rt_Mo_saysNow ?_
        exact lf_i (by rw [if_neg (by decide), if_pos rfl, if_pos (by omega)]) k
    · refine wp_ts (pc' := 116) d_Mo_saysNow_54 (by decide) rfl (by decide) ?_
      refine wp_aload_n d_Mo_saysNow_116 rfl rfl ?_
      refine wp_iload_n d_Mo_saysNow_117 rfl rfl ?_
      refine wp_iload_n d_Mo_saysNow_118 rfl rfl ?_
      refine wp_iconst (x := nI 2) d_Mo_saysNow_119 rfl ?_
      refine wp_iremN d_Mo_saysNow_120 (by omega) (by omega) (by omega) ?_
      refine wp_ifN_ne (pc' := 128) d_Mo_saysNow_121 (by decide) (by omega) (fun h121 => ?_) (fun h121 => ?_)
      · refine wp_iconst (x := nI 0) d_Mo_saysNow_128 rfl ?_
        refine wp_invV d_Mo_saysNow_129 ow_Mo_saysNow lk_8_76 (by decide) mi_Mo_greatest rfl rfl (Nat.le_of_ble_eq_true rfl) rfl (wp_isC (O_91 _)) (show h_Mo_greatest ≤ _ from by decide) (m_greatest hq j (by omega) _ (if mm % 2 = 0 then sp_fear q else sp_told q j) (by first | exact Or.inl ⟨by decide, if_pos h121⟩ | exact Or.inr ⟨rfl, if_neg h121⟩) ?_)
        refine wp_Ki ?_
        refine wp_reti d_Mo_saysNow_132 rt_Mo_saysNow ?_
        exact k
      · refine wp_iconst (x := nI 1) d_Mo_saysNow_124 rfl ?_
        refine wp_goto (pc' := 129) d_Mo_saysNow_125 (by decide) ?_
        refine wp_invV d_Mo_saysNow_129 ow_Mo_saysNow lk_8_76 (by decide) mi_Mo_greatest rfl rfl (Nat.le_of_ble_eq_true rfl) rfl (wp_isC (O_91 _)) (show h_Mo_greatest ≤ _ from by decide) (m_greatest hq j (by omega) _ (if mm % 2 = 0 then sp_fear q else sp_told q j) (by first | exact Or.inl ⟨by decide, if_pos h121⟩ | exact Or.inr ⟨rfl, if_neg h121⟩) ?_)
        refine wp_Ki ?_
        refine wp_reti d_Mo_saysNow_132 rt_Mo_saysNow ?_
        exact k
    · refine wp_ts (pc' := 133) d_Mo_saysNow_54 (by decide) rfl (by decide) ?_
      refine wp_aload_n d_Mo_saysNow_133 rfl rfl ?_
      refine wp_iload_n d_Mo_saysNow_134 rfl rfl ?_
      refine wp_iconst (x := nI 4) d_Mo_saysNow_135 rfl ?_
      refine wp_invV d_Mo_saysNow_136 ow_Mo_saysNow lk_8_72 (by decide) mi_Mo_its rfl rfl (Nat.le_of_ble_eq_true rfl) rfl (wp_isC (O_91 _)) (show h_Mo_its ≤ _ from by decide) (m_its hq j _ (by omega) ?_)
      refine wp_Ki ?_
      refine wp_reti d_Mo_saysNow_139 rt_Mo_saysNow ?_
      exact k
  refine wp_aload_n d_Mo_saysNow_31 rfl rfl ?_
  refine wp_iload_n d_Mo_saysNow_32 rfl rfl ?_
  refine wp_iconst (x := nI 1) d_Mo_saysNow_33 rfl ?_
  refine wp_invV d_Mo_saysNow_34 ow_Mo_saysNow lk_8_72 (by decide) mi_Mo_its rfl rfl (Nat.le_of_ble_eq_true rfl) rfl (wp_isC (O_91 _)) (show h_Mo_its ≤ _ from by decide) (m_its hq j 1 (by omega) (lf_i g4 ?_))
  refine wp_Ki ?_
  refine wp_iston3 d_Mo_saysNow_37 rfl ?_
  refine wp_iload_n d_Mo_saysNow_38 rfl rfl ?_
  refine wp_aload_n d_Mo_saysNow_39 rfl rfl ?_
  refine wp_getI d_Mo_saysNow_40 ow_Mo_saysNow fl_8_25 (O_91 _) rfl (hmu) ?_
  refine wp_ic_ne (pc' := 48) d_Mo_saysNow_43 (by decide) (fun h43 => ?_) (fun h43 => ?_)
  · refine wp_aload_n d_Mo_saysNow_48 rfl rfl ?_
    refine wp_iload_n d_Mo_saysNow_49 rfl rfl ?_
    refine wp_iconst (x := nI 0) d_Mo_saysNow_50 rfl ?_
    refine wp_invV d_Mo_saysNow_51 ow_Mo_saysNow lk_8_72 (by decide) mi_Mo_its rfl rfl (Nat.le_of_ble_eq_true rfl) rfl (wp_isC (O_91 _)) (show h_Mo_its ≤ _ from by decide) (m_its hq j 0 (by omega) (lf_i g2 ?_))
    refine wp_Ki ?_
    exact key h43
  · refine wp_iconst (x := -1) d_Mo_saysNow_46 rfl ?_
    refine wp_reti d_Mo_saysNow_47 rt_Mo_saysNow ?_
    exact lf_i (if_pos h43).symm k
