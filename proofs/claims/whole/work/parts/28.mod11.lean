/-! the reference: draws, loose tellings -/
theorem ix_ne {k j : Nat} (hk : k < 13 ∧ k ≠ 0 ∧ k ≠ 6 ∧ k ≠ 7) (h : j = 0 ∨ 13 ≤ j) : j ≠ k := by omega
theorem ix_6 {k u : Nat} (hk : k < 13 ∧ k ≠ 0 ∧ k ≠ 6 ∧ k ≠ 7) (h : u < 2) : k ≠ 6 + u := by omega
theorem ix_f {k i v : Nat} (hk : k < 13 ∧ k ≠ 0 ∧ k ≠ 6 ∧ k ≠ 7) : 13 + 10 * i + v ≠ k := by omega
theorem ix_t {k v : Nat} (hk : k < 13 ∧ k ≠ 0 ∧ k ≠ 6 ∧ k ≠ 7) : 113 + v ≠ k := by omega
theorem ix_9 {k o : Nat} (h : 9 + o = k) : 9 ≤ k := by omega
theorem sp_wf_h {q : sp_R} (h : sp_wf q) {k : Nat} {x : Int32} (hk : k < 13 ∧ k ≠ 0 ∧ k ≠ 6 ∧ k ≠ 7) (h1 : k = 1 ∨ k = 2 → ∃ n, n ≤ 9999 ∧ x = nI n) (h4 : k = 4 → ∃ n, n ≤ 50 ∧ x = nI n) (h5 : k = 5 → ∃ n, n ≤ 20 ∧ x = nI n) (h8 : k = 8 → ∃ n, 1 ≤ n ∧ n ≤ 20 ∧ x = nI n) (h9 : 9 ≤ k → ∃ n, n ≤ 9 ∧ x = nI n) : sp_wf (sp_up q k x) := by
  obtain ⟨a0, a1, a2, a3, a4, a5, a6, a7, a8, a9⟩ := h
  have e : sp_n (sp_up q k x) = sp_n q := by unfold sp_n; rw [sp_up_ne q x (ix_ne hk (Or.inl rfl))]
  have g : ∀ (P : Int32 → Prop) (j : Nat), P (q j) → (j = k → P x) → P (sp_up q k x j) := by
    intro P j p1 p2
    by_cases hj : j = k
    · rw [hj, sp_up_eq]; exact p2 hj
    · rw [sp_up_ne q x hj]; exact p1
  refine ⟨?_, ?_, ?_, ?_, ?_, ?_, ?_, ?_, ?_, ?_⟩
  · rw [sp_up_ne q x (ix_ne hk (Or.inl rfl))]; exact a0
  · intro j hj
    rw [e] at hj
    refine sp_al_fw (fun v hv => ?_)
    rw [sp_up_ne q x (ix_f hk)]
    exact sp_fw_al (a1 j hj) hv
  · intro u hu
    exact sp_tw_up (Nat.lt_trans hk.1 (by decide)) (ix_6 hk hu) (a2 u hu)
  · exact g (fun y => ∃ n, n ≤ 9999 ∧ y = nI n) 1 a3 (fun z => h1 (Or.inl z.symm))
  · exact g (fun y => ∃ n, n ≤ 9999 ∧ y = nI n) 2 a4 (fun z => h1 (Or.inr z.symm))
  · exact g (fun y => ∃ n, n ≤ 50 ∧ y = nI n) 4 a5 (fun z => h4 z.symm)
  · exact g (fun y => ∃ n, n ≤ 20 ∧ y = nI n) 5 a6 (fun z => h5 z.symm)
  · exact g (fun y => ∃ n, 1 ≤ n ∧ n ≤ 20 ∧ y = nI n) 8 a7 (fun z => h8 z.symm)
  · intro o ho
    exact g (fun y => ∃ n, n ≤ 9 ∧ y = nI n) (9 + o) (a8 o ho) (fun z => h9 (ix_9 z))
  · intro j hj
    rw [sp_up_ne q x (ix_t hk)]; exact a9 j hj
theorem sp_cl_nI {v : Int32} {n : Nat} (hn : n < 2 ^ 31) : ∃ m, m ≤ n ∧ sp_cl v 0 (nI n) = nI m := by
  unfold sp_cl
  split
  · exact ⟨0, Nat.zero_le _, rfl⟩
  · rename_i h
    split
    · exact ⟨n, Nat.le_refl _, rfl⟩
    · rename_i h2
      obtain ⟨m, h3, h4⟩ := (i_in (v := v) hn).mp ⟨Int32.not_lt.mp h, Int32.not_lt.mp h2⟩
      exact ⟨m, h3, h4⟩
theorem sp_tl_wf {q : sp_R} (h : sp_wf q) (mu : Int32) {o i : Nat} (hi : i < sp_n q) (ho : o < 4) (h1 : q 1 < nI 9999) : sp_wf (sp_tl q mu o i) := by
  unfold sp_tl
  obtain ⟨m, hm, e⟩ := h.2.2.2.1
  refine sp_wf_h (sp_wf_h (sp_hr_wf h hi ho) (by omega) (fun _ => ?_) (fun z => by omega) (fun z => by omega) (fun z => by omega) (fun z => by omega)) (by omega) (fun _ => ?_) (fun z => by omega) (fun z => by omega) (fun z => by omega) (fun z => by omega)
  · exact sp_cl_nI (n := 9999) (by decide)
  · rw [e] at h1
    exact ⟨m + 1, (nI_ltI (by omega) (by decide)).mp h1, by rw [e, nI_add]⟩
theorem sp_tl_n (q : sp_R) (mu : Int32) (o i : Nat) (ho : o < 4) : sp_n (sp_tl q mu o i) = sp_n q := by
  unfold sp_tl sp_n
  rw [sp_up_ne _ _ (by decide), sp_up_ne _ _ (by decide), sp_hr_ne q o i (Or.inl (by omega)) ho]
/-- a choice that no computing looks into -/
noncomputable def sp_if {α : Type} (P : Prop) (x y : α) : α := @ite α P (Classical.propDecidable P) x y
theorem sp_if_t {α : Type} {P : Prop} {x y : α} (h : P) : sp_if P x y = x := @if_pos P (Classical.propDecidable P) h α x y
theorem sp_if_f {α : Type} {P : Prop} {x y : α} (h : ¬ P) : sp_if P x y = y := @if_neg P (Classical.propDecidable P) h α x y
def sp_z (z : Int32) : Int32 := z * 1103515245 + nI 12345
theorem sp_z_e (x : Int32) : x * 1103515245 + nI 12345 = sp_z x := rfl
def sp_dn (z : Int32) : Nat := z.toUInt32.toNat / 256
theorem sp_dn_lt (z : Int32) : sp_dn z < 2 ^ 24 := by
  have := z.toUInt32.toNat_lt
  unfold sp_dn
  omega
theorem sp_dn_e (z : Int32) : (z.toUInt32 >>> ((nI 8).toUInt32 &&& Int32.toUInt32 31)).toInt32 = nI (sp_dn z) := by
  have e : (nI 8).toUInt32 &&& Int32.toUInt32 31 = 8 := by decide
  rw [e]
  refine Int32.toBitVec_inj.mp (BitVec.eq_of_toNat_eq ?_)
  have h := z.toUInt32.toNat_lt
  have h1 : ((z.toUInt32 >>> 8).toInt32.toBitVec).toNat = z.toUInt32.toNat / 256 := by
    show (z.toUInt32 >>> 8).toNat = _
    rw [UInt32.toNat_shiftRight]
    exact Nat.shiftRight_eq_div_pow _ _
  have h2 : ((nI (sp_dn z)).toBitVec).toNat = sp_dn z := by
    show (BitVec.ofNat 32 (sp_dn z)).toNat = _
    rw [BitVec.toNat_ofNat]
    have := sp_dn_lt z
    exact Nat.mod_eq_of_lt (by omega)
  rw [h1, h2]
  rfl
section DR
variable {S : wp_S} {q : sp_R} {mu : Int32} {Q : Option Value → wp_S → Prop}
theorem m_drawn (C : mC S q mu) (b : Nat) (h0 : 0 < b) (hb : b < 2 ^ 31) (K : ∀ S', mC S' (sp_up q 3 (sp_z (q 3))) mu → fr mR S S' → Q (some (.int (nI (sp_dn (sp_z (q 3)) % b)))) S') : cl h_Mo_drawn y_Mo_drawn [.ref k_Mo, .int (nI b)] S Q := by
  have hd := sp_dn_lt (sp_z (q 3))
  have e : sp_up q 3 (sp_z (q 3)) 3 = sp_z (q 3) := sp_up_eq _ _ _
  refine cl_in ml_Mo_drawn rfl rfl ?_
  refine wp_aload_n d_Mo_drawn_0 rfl rfl ?_
  refine wp_getR d_Mo_drawn_1 ow_Mo_drawn fl_8_7 (O_91 _) rfl ?_
  refine wp_iconst (x := nI 3) d_Mo_drawn_4 rfl ?_
  refine wp_aload_n d_Mo_drawn_5 rfl rfl ?_
  refine wp_getR d_Mo_drawn_6 ow_Mo_drawn fl_8_7 (O_91 _) rfl ?_
  refine wp_iconst (x := nI 3) d_Mo_drawn_9 rfl ?_
  refine wp_iaload d_Mo_drawn_10 (A_92 _) (by omega) (by decide) (congrFun C.1 3) ?_
  refine wp_ldc (v := .int (1103515245)) d_Mo_drawn_11 ow_Mo_drawn (by decide +kernel) ?_
  refine wp_imul d_Mo_drawn_13 rfl ?_
  refine wp_sipush (x := nI 12345) d_Mo_drawn_14 (by decide) ?_
  refine wp_iadd d_Mo_drawn_17 (sp_z_e _) ?_
  refine wp_iastore d_Mo_drawn_18 (A_92 _) (by omega) (by decide) ?_
  refine wp_aload_n d_Mo_drawn_19 rfl rfl ?_
  refine wp_getR d_Mo_drawn_20 ow_Mo_drawn fl_8_7 (O_91 _) rfl ?_
  refine wp_iconst (x := nI 3) d_Mo_drawn_23 rfl ?_
  refine wp_iaload d_Mo_drawn_24 (A_92 _) (by omega) (by decide) ((congrFun (mC_u C 3 (sp_z (q 3))).1 3).trans e) ?_
  refine wp_bipush (x := nI 8) d_Mo_drawn_25 (by decide) ?_
  refine wp_iushr d_Mo_drawn_27 (sp_dn_e _) ?_
  refine wp_iload_n d_Mo_drawn_28 rfl rfl ?_
  refine wp_iremN d_Mo_drawn_29 (by omega) (by omega) (by omega) ?_
  refine wp_reti d_Mo_drawn_30 rt_Mo_drawn ?_
  exact K _ (mC_u C _ _) (fr.rf.up ⟨rfl, by decide⟩)
/-- one loose telling: the row, and whether it was told -/
noncomputable def sp_l1 (q : sp_R) (mu : Int32) : sp_R × Bool :=
  sp_if (sp_told (sp_up (sp_up q 3 (sp_z (q 3))) 3 (sp_z (sp_z (q 3)))) (sp_dn (sp_z (sp_z (q 3))) % sp_n q) (sp_dn (sp_z (q 3)) % 4) < nI 9 ∧ q 1 < nI 9999) (sp_tl (sp_up (sp_up q 3 (sp_z (q 3))) 3 (sp_z (sp_z (q 3)))) mu (sp_dn (sp_z (q 3)) % 4) (sp_dn (sp_z (sp_z (q 3))) % sp_n q), true) (sp_up (sp_up q 3 (sp_z (q 3))) 3 (sp_z (sp_z (q 3))), false)
noncomputable def sp_ln (mu : Int32) (p : sp_R × Nat) : sp_R × Nat := ((sp_l1 p.1 mu).1, if (sp_l1 p.1 mu).2 = true then p.2 + 1 else p.2)
noncomputable def sp_lo (q : sp_R) (mu : Int32) : Nat → sp_R × Nat
  | 0 => (q, 0)
  | k + 1 => sp_ln mu (sp_lo q mu k)
theorem sp_ln_1 (mu : Int32) (p : sp_R × Nat) : (sp_ln mu p).1 = (sp_l1 p.1 mu).1 := by rw [sp_ln]
theorem sp_ln_2 (mu : Int32) (p : sp_R × Nat) : (sp_ln mu p).2 = if (sp_l1 p.1 mu).2 = true then p.2 + 1 else p.2 := by rw [sp_ln]
theorem sp_lo_s (q : sp_R) (mu : Int32) (k : Nat) : sp_lo q mu (k + 1) = sp_ln mu (sp_lo q mu k) := by rw [sp_lo]
theorem sp_l1_wf {q : sp_R} (h : sp_wf q) (mu : Int32) (h0 : 0 < sp_n q) : sp_wf (sp_l1 q mu).1 ∧ sp_n (sp_l1 q mu).1 = sp_n q := by
  have a : sp_wf (sp_up (sp_up q 3 (sp_z (q 3))) 3 (sp_z (sp_z (q 3)))) := sp_wf_h (sp_wf_h h (by omega) (fun z => by omega) (fun z => by omega) (fun z => by omega) (fun z => by omega) (fun z => by omega)) (by omega) (fun z => by omega) (fun z => by omega) (fun z => by omega) (fun z => by omega) (fun z => by omega)
  have b : sp_n (sp_up (sp_up q 3 (sp_z (q 3))) 3 (sp_z (sp_z (q 3)))) = sp_n q := by
    unfold sp_n
    rw [sp_up_ne _ _ (by decide), sp_up_ne _ _ (by decide)]
  unfold sp_l1
  by_cases h1 : sp_told (sp_up (sp_up q 3 (sp_z (q 3))) 3 (sp_z (sp_z (q 3)))) (sp_dn (sp_z (sp_z (q 3))) % sp_n q) (sp_dn (sp_z (q 3)) % 4) < nI 9 ∧ q 1 < nI 9999
  · rw [sp_if_t h1]
    exact ⟨sp_tl_wf a mu (by rw [b]; exact Nat.mod_lt _ h0) (Nat.mod_lt _ (by decide)) (by rw [sp_up_ne _ _ (by decide), sp_up_ne _ _ (by decide)]; exact h1.2), (sp_tl_n _ mu _ _ (Nat.mod_lt _ (by decide))).trans b⟩
  · rw [sp_if_f h1]
    exact ⟨a, b⟩
theorem sp_lo_wf {q : sp_R} (h : sp_wf q) (mu : Int32) (h0 : 0 < sp_n q) (k : Nat) : sp_wf (sp_lo q mu k).1 ∧ sp_n (sp_lo q mu k).1 = sp_n q ∧ (sp_lo q mu k).2 ≤ k := by
  induction k with
  | zero => exact ⟨h, rfl, Nat.le_refl _⟩
  | succ k ih =>
    rw [sp_lo_s]
    generalize sp_lo q mu k = p at ih
    have := sp_l1_wf ih.1 mu (by rw [ih.2.1]; exact h0)
    rw [sp_ln_1, sp_ln_2]
    refine ⟨this.1, this.2.trans ih.2.1, ?_⟩
    split
    · exact Nat.succ_le_succ ih.2.2
    · exact Nat.le_succ_of_le ih.2.2
theorem m_lo_loop (q : sp_R) (hw : sp_wf q) (h0 : 0 < sp_n q) (N : Nat) (hN : N ≤ 100) (K : ∀ S', mC S' (sp_lo q mu N).1 mu → fr mW S S' → Q (some (.int (nI (sp_lo q mu N).2))) S') : ∀ m k (S' : wp_S) (l4 l5 : Option Value), k + m = N → mC S' (sp_lo q mu k).1 mu → fr mW S S' → wp (h_Mo_loose - 1) y_Mo_loose 37 [some (.ref 91), some (.int (nI N)), some (.int (nI (sp_lo q mu k).2)), some (.int (nI k)), l4, l5] [] S' Q := by
  intro m
  induction m with
  | zero =>
    intro k S' l4 l5 hk C f
    obtain rfl : k = N := by omega
    refine wp_iload_n d_Mo_loose_37 rfl rfl ?_
    refine wp_iload_n d_Mo_loose_38 rfl rfl ?_
    refine wp_icN_ge (pc' := 89) d_Mo_loose_39 (by decide) (by omega) (by omega) (fun h39 => ?_) (fun h39 => absurd h39 (by omega))
    refine wp_iload_n d_Mo_loose_89 rfl rfl ?_
    refine wp_reti d_Mo_loose_90 rt_Mo_loose ?_
    exact K _ C f
  | succ m ih =>
    intro k S' l4 l5 hk C f
    obtain ⟨w1, w2, w3⟩ := sp_lo_wf hw mu h0 k
    have ih1 := ih (k + 1)
    rw [sp_lo_s, sp_ln_1, sp_ln_2] at ih1
    generalize sp_lo q mu k = pp at *
    obtain ⟨p, cn⟩ := pp
    dsimp only at *
    have a : sp_wf (sp_up (sp_up p 3 (sp_z (p 3))) 3 (sp_z (sp_z (p 3)))) := sp_wf_h (sp_wf_h w1 (by omega) (fun z => by omega) (fun z => by omega) (fun z => by omega) (fun z => by omega) (fun z => by omega)) (by omega) (fun z => by omega) (fun z => by omega) (fun z => by omega) (fun z => by omega) (fun z => by omega)
    have b : sp_n (sp_up (sp_up p 3 (sp_z (p 3))) 3 (sp_z (sp_z (p 3)))) = sp_n p := by
      unfold sp_n
      rw [sp_up_ne _ _ (by decide), sp_up_ne _ _ (by decide)]
    have hn := w1.n
    have hm := Nat.mod_lt (sp_dn (sp_z (sp_z (p 3)))) (show 0 < sp_n p by omega)
    have hm4 := Nat.mod_lt (sp_dn (sp_z (p 3))) (show 0 < 4 by omega)
    have e3 : sp_up p 3 (sp_z (p 3)) 3 = sp_z (p 3) := sp_up_eq _ _ _
    have e1 : sp_up (sp_up p 3 (sp_z (p 3))) 3 (sp_z (sp_z (p 3))) 1 = p 1 := by rw [sp_up_ne _ _ (by decide), sp_up_ne _ _ (by decide)]
    have key : ∀ r c', (sp_l1 p mu) = r → (if r.2 = true then cn + 1 else cn) = c' → ∀ S2 l4 l5, mC S2 r.1 mu → fr mW S' S2 → wp (h_Mo_loose - 1) y_Mo_loose 37 [some (.ref 91), some (.int (nI N)), some (.int (nI c')), some (.int (nI (k + 1))), l4, l5] [] S2 Q := by
      intro r c' hr hc S2 l4 l5 C2 f2
      subst hr
      subst hc
      exact ih1 S2 l4 l5 (by omega) C2 (f.tr f2)
    refine wp_iload_n d_Mo_loose_37 rfl rfl ?_
    refine wp_iload_n d_Mo_loose_38 rfl rfl ?_
    refine wp_icN_ge (pc' := 89) d_Mo_loose_39 (by decide) (by omega) (by omega) (fun h39 => absurd h39 (by omega)) (fun h39 => ?_)
    refine wp_aload_n d_Mo_loose_42 rfl rfl ?_
    refine wp_iconst (x := nI 4) d_Mo_loose_43 rfl ?_
    refine wp_invV d_Mo_loose_44 ow_Mo_loose lk_8_130 (by decide) mi_Mo_drawn rfl rfl (Nat.le_of_ble_eq_true rfl) rfl (wp_isC (O_91 _)) (show h_Mo_drawn ≤ _ from by decide) (m_drawn C 4 (by decide) (by decide) (fun S2 C2 f2 => ?_))
    refine wp_Ki ?_
    refine wp_isto4 d_Mo_loose_47 rfl ?_
    refine wp_aload_n d_Mo_loose_49 rfl rfl ?_
    refine wp_aload_n d_Mo_loose_50 rfl rfl ?_
    refine wp_getR d_Mo_loose_51 ow_Mo_loose fl_8_7 (O_91 _) rfl ?_
    refine wp_iconst (x := nI 0) d_Mo_loose_54 rfl ?_
    refine wp_iaload d_Mo_loose_55 (A_92 _) (by omega) (by decide) ((congrFun C2.1 0).trans ((sp_up_ne _ _ (by decide)).trans (hn.2.trans (by rw [w2])))) ?_
    refine wp_invV d_Mo_loose_56 ow_Mo_loose lk_8_130 (by decide) mi_Mo_drawn rfl rfl (Nat.le_of_ble_eq_true rfl) rfl (wp_isC (O_91 _)) (show h_Mo_drawn ≤ _ from by decide) (m_drawn C2 (sp_n q) h0 (by omega) (fun S3 C3 f3 => ?_))
    refine wp_Ki ?_
    rw [e3] at C3 ⊢
    rw [← w2] at h0 ⊢
    refine wp_isto5 d_Mo_loose_59 rfl ?_
    refine wp_aload_n d_Mo_loose_61 rfl rfl ?_
    refine wp_iload d_Mo_loose_62 rfl ?_
    refine wp_iload d_Mo_loose_64 rfl ?_
    refine wp_invV d_Mo_loose_66 ow_Mo_loose lk_8_121 (by decide) mi_Mo_canTell rfl rfl (Nat.le_of_ble_eq_true rfl) rfl (wp_isC (O_91 _)) (show h_Mo_canTell ≤ _ from by decide) (m_canTell C3 _ _ (by omega) hm4 ?_)
    refine wp_Ki ?_
    refine wp_ifB_eq (pc' := 83) d_Mo_loose_69 (by decide) (fun h69 => ?_) (fun h69 => ?_)
    · refine wp_iinc3 d_Mo_loose_83 rfl (nI_add _ 1) ?_
      refine wp_goto (pc' := 37) d_Mo_loose_86 (by decide) ?_
      first
      | exact key (sp_up (sp_up p 3 (sp_z (p 3))) 3 (sp_z (sp_z (p 3))), false) cn (by unfold sp_l1; rw [sp_if_f (fun z => h69 (by rw [e1]; exact z))]) rfl _ _ _ C3 ((fr_W2 f2).tr (fr_W2 f3))
      | exact key (sp_tl (sp_up (sp_up p 3 (sp_z (p 3))) 3 (sp_z (sp_z (p 3)))) mu (sp_dn (sp_z (p 3)) % 4) (sp_dn (sp_z (sp_z (p 3))) % sp_n p), true) (cn + 1) (by unfold sp_l1; rw [sp_if_t (by rw [e1] at h69; exact h69)]) rfl _ _ _ C4 (((fr_W2 f2).tr (fr_W2 f3)).tr f4)
    · refine wp_aload_n d_Mo_loose_72 rfl rfl ?_
      refine wp_iload d_Mo_loose_73 rfl ?_
      refine wp_iload d_Mo_loose_75 rfl ?_
      refine wp_invV d_Mo_loose_77 ow_Mo_loose lk_8_126 (by decide) mi_Mo_telling rfl rfl (Nat.le_of_ble_eq_true rfl) rfl (wp_isC (O_91 _)) (show h_Mo_telling ≤ _ from by decide) (m_telling C3 a _ _ (by rw [b]; exact hm) hm4 (fun S4 C4 f4 => ?_))
      refine wp_Kv ?_
      refine wp_iinc2 d_Mo_loose_80 rfl (nI_add _ 1) ?_
      refine wp_iinc3 d_Mo_loose_83 rfl (nI_add _ 1) ?_
      refine wp_goto (pc' := 37) d_Mo_loose_86 (by decide) ?_
      first
      | exact key (sp_up (sp_up p 3 (sp_z (p 3))) 3 (sp_z (sp_z (p 3))), false) cn (by unfold sp_l1; rw [sp_if_f (fun z => h69 (by rw [e1]; exact z))]) rfl _ _ _ C3 ((fr_W2 f2).tr (fr_W2 f3))
      | exact key (sp_tl (sp_up (sp_up p 3 (sp_z (p 3))) 3 (sp_z (sp_z (p 3)))) mu (sp_dn (sp_z (p 3)) % 4) (sp_dn (sp_z (sp_z (p 3))) % sp_n p), true) (cn + 1) (by unfold sp_l1; rw [sp_if_t (by rw [e1] at h69; exact h69)]) rfl _ _ _ C4 (((fr_W2 f2).tr (fr_W2 f3)).tr f4)
end DR
