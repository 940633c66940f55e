/-! the reference: more calls -/
def sp_of (q : sp_R) (i w : Nat) : Int32 := if w = 6 then sp_says q (-1) i else if w = 7 then sp_who q (-1) i else if w = 8 then sp_rent q (-1) i else if w = 9 then sp_all q i else q (13 + 10 * i + w)
/-- how many tellings more: fuel, row, count -/
noncomputable def sp_nf (o i : Nat) : Nat → sp_R → Nat → Nat
  | 0, _, n => n
  | f + 1, q, n => sp_if (sp_who q (-1) i = nI o) n (sp_nf o i f (sp_hr q o i) (n + 1))
theorem sp_nf_0 (o i : Nat) (q : sp_R) (n : Nat) : sp_nf o i 0 q n = n := by rw [sp_nf]
theorem sp_nf_s (o i f : Nat) (q : sp_R) (n : Nat) : sp_nf o i (f + 1) q n = sp_if (sp_who q (-1) i = nI o) n (sp_nf o i f (sp_hr q o i) (n + 1)) := by rw [sp_nf]
theorem sp_nf_le (o i : Nat) : ∀ f q n, sp_nf o i f q n ≤ n + f := by
  intro f
  induction f with
  | zero => exact fun q n => by rw [sp_nf_0]; exact Nat.le_refl _
  | succ f ih =>
    intro q n
    rw [sp_nf_s]
    by_cases h : sp_who q (-1) i = nI o
    · rw [sp_if_t h]; omega
    · rw [sp_if_f h]
      have := ih (sp_hr q o i) (n + 1)
      omega
section OW
variable {S : wp_S} {q : sp_R} {mu : Int32} {Q : Option Value → wp_S → Prop}
noncomputable def op_ofField (q : sp_R) (v w : Int32) : sp_Out := sp_if (sp_isF q v ∧ sp_isW w 9) (0, sp_of q v.toNatClampNeg w.toNatClampNeg, q) (sp_bad q 1)
theorem m_ofField (C : mC S q (-1)) (hw : sp_wf q) (v w : Int32) (K : mQ S (op_ofField q v w) Q) : cl h_Mo_ofField y_Mo_ofField [.ref k_Mo, .int v, .int w] S Q := by
  have hn := hw.n
  unfold op_ofField at K
  by_cases h : sp_isF q v ∧ sp_isW w 9
  · rw [sp_if_t h] at K
    obtain ⟨i, hi, rfl⟩ := sp_isF_of hw h.1
    obtain ⟨k, hk, rfl⟩ := (i_in (by decide)).mp h.2
    rw [nI_clamp (by omega), nI_clamp (by omega)] at K
    unfold sp_of at K
    have K25 : wp (h_Mo_ofField - 1) y_Mo_ofField 25 [some (.ref 91), some (.int (nI i)), some (.int (nI k))] [] S Q := by
      clear h
      rcases (show k = 6 ∨ k = 7 ∨ k = 8 ∨ k = 9 ∨ k < 6 by omega) with rfl | rfl | rfl | rfl | h6
      · rw [if_pos rfl] at K
        refine wp_iload_n d_Mo_ofField_25 rfl rfl ?_
        refine wp_ts (pc' := 56) d_Mo_ofField_26 (by decide) rfl (by decide) ?_
        refine wp_aload_n d_Mo_ofField_56 rfl rfl ?_
        refine wp_iload_n d_Mo_ofField_57 rfl rfl ?_
        refine wp_invV d_Mo_ofField_58 ow_Mo_ofField lk_8_80 (by decide) mi_Mo_saysNow rfl rfl (Nat.le_of_ble_eq_true rfl) rfl (wp_isC (O_91 _)) (show h_Mo_saysNow ≤ _ from by decide) (m_saysNow C.1 C.2 i (by omega) (fun j hj => hw.f (by omega)) ?_)
        refine wp_Ki ?_
        refine wp_reti d_Mo_ofField_61 rt_Mo_ofField ?_
        exact mQ_ok K C fr.rf
      · rw [if_neg (by decide), if_pos rfl] at K
        refine wp_iload_n d_Mo_ofField_25 rfl rfl ?_
        refine wp_ts (pc' := 62) d_Mo_ofField_26 (by decide) rfl (by decide) ?_
        refine wp_aload_n d_Mo_ofField_62 rfl rfl ?_
        refine wp_iload_n d_Mo_ofField_63 rfl rfl ?_
        refine wp_invV d_Mo_ofField_64 ow_Mo_ofField lk_8_90 (by decide) mi_Mo_whose rfl rfl (Nat.le_of_ble_eq_true rfl) rfl (wp_isC (O_91 _)) (show h_Mo_whose ≤ _ from by decide) (m_whose C hw i hi (fun S' f => ?_))
        refine wp_Ki ?_
        refine wp_reti d_Mo_ofField_67 rt_Mo_ofField ?_
        exact mQ_ok K (C.fr f) (fr_YD f)
      · rw [if_neg (by decide), if_neg (by decide), if_pos rfl] at K
        refine wp_iload_n d_Mo_ofField_25 rfl rfl ?_
        refine wp_ts (pc' := 68) d_Mo_ofField_26 (by decide) rfl (by decide) ?_
        refine wp_aload_n d_Mo_ofField_68 rfl rfl ?_
        refine wp_iload_n d_Mo_ofField_69 rfl rfl ?_
        refine wp_invV d_Mo_ofField_70 ow_Mo_ofField lk_8_97 (by decide) mi_Mo_rentOf rfl rfl (Nat.le_of_ble_eq_true rfl) rfl (wp_isC (O_91 _)) (show h_Mo_rentOf ≤ _ from by decide) (m_rentOf C hw i hi (fun S' f => ?_))
        refine wp_Ki ?_
        refine wp_reti d_Mo_ofField_73 rt_Mo_ofField ?_
        exact mQ_ok K (C.fr f) (fr_YD f)
      · rw [if_neg (by decide), if_neg (by decide), if_neg (by decide), if_pos rfl] at K
        refine wp_iload_n d_Mo_ofField_25 rfl rfl ?_
        refine wp_ts (pc' := 74) d_Mo_ofField_26 (by decide) rfl (by decide) ?_
        refine wp_aload_n d_Mo_ofField_74 rfl rfl ?_
        refine wp_iload_n d_Mo_ofField_75 rfl rfl ?_
        refine wp_invV d_Mo_ofField_76 ow_Mo_ofField lk_8_83 (by decide) mi_Mo_toldBy rfl rfl (Nat.le_of_ble_eq_true rfl) rfl (wp_isC (O_91 _)) (show h_Mo_toldBy ≤ _ from by decide) (m_toldBy C.1 i (by omega) ?_)
        refine wp_Ki ?_
        refine wp_reti d_Mo_ofField_79 rt_Mo_ofField ?_
        exact mQ_ok K C fr.rf
      · rw [if_neg (by omega), if_neg (by omega), if_neg (by omega), if_neg (by omega)] at K
        refine wp_iload_n d_Mo_ofField_25 rfl rfl ?_
        refine wp_td (pc' := 80) d_Mo_ofField_26 ((Or.inl (by rw [nI_toInt (by omega)]; omega))) (by decide) ?_
        refine wp_aload_n d_Mo_ofField_80 rfl rfl ?_
        refine wp_iload_n d_Mo_ofField_81 rfl rfl ?_
        refine wp_iload_n d_Mo_ofField_82 rfl rfl ?_
        refine wp_invV d_Mo_ofField_83 ow_Mo_ofField lk_8_72 (by decide) mi_Mo_its rfl rfl (Nat.le_of_ble_eq_true rfl) rfl (wp_isC (O_91 _)) (show h_Mo_its ≤ _ from by decide) (m_its C.1 i k (by omega) ?_)
        refine wp_Ki ?_
        refine wp_reti d_Mo_ofField_86 rt_Mo_ofField ?_
        exact mQ_ok K C fr.rf
    refine cl_in ml_Mo_ofField rfl rfl ?_
    refine wp_aload_n d_Mo_ofField_0 rfl rfl ?_
    refine wp_iload_n d_Mo_ofField_1 rfl rfl ?_
    refine wp_invV d_Mo_ofField_2 ow_Mo_ofField lk_8_93 (by decide) mi_Mo_isField rfl rfl (Nat.le_of_ble_eq_true rfl) rfl (wp_isC (O_91 _)) (show h_Mo_isField ≤ _ from by decide) (m_isField C.1 _ ?_)
    refine wp_Ki ?_
    refine wp_ifB_eq (pc' := 18) d_Mo_ofField_5 (by decide) (fun h5 => absurd h.1 h5) (fun h5 => ?_)
    refine wp_iload_n d_Mo_ofField_8 rfl rfl ?_
    refine wp_iconst (x := nI 0) d_Mo_ofField_9 rfl ?_
    refine wp_bipush (x := nI 9) d_Mo_ofField_10 (by decide) ?_
    refine wp_invS d_Mo_ofField_12 ow_Mo_ofField lk_8_54 (by decide) mi_Mo_in rfl rfl (Nat.le_of_ble_eq_true rfl) rfl (show h_Mo_in ≤ _ from by decide) (m_in _ _ _ ?_)
    refine wp_Ki ?_
    refine wp_ifB_ne (pc' := 25) d_Mo_ofField_15 (by decide) (fun h15 => ?_) (fun h15 => absurd h.2 h15)
    exact K25
  · rw [sp_if_f h] at K
    refine cl_in ml_Mo_ofField rfl rfl ?_
    refine wp_aload_n d_Mo_ofField_0 rfl rfl ?_
    refine wp_iload_n d_Mo_ofField_1 rfl rfl ?_
    refine wp_invV d_Mo_ofField_2 ow_Mo_ofField lk_8_93 (by decide) mi_Mo_isField rfl rfl (Nat.le_of_ble_eq_true rfl) rfl (wp_isC (O_91 _)) (show h_Mo_isField ≤ _ from by decide) (m_isField C.1 _ ?_)
    refine wp_Ki ?_
    refine wp_ifB_eq (pc' := 18) d_Mo_ofField_5 (by decide) (fun h5 => ?_) (fun h5 => ?_)
    · refine wp_aload_n d_Mo_ofField_18 rfl rfl ?_
      refine wp_ldc (v := .int (-1000000001)) d_Mo_ofField_19 ow_Mo_ofField (by decide +kernel) ?_
      refine wp_invV d_Mo_ofField_21 ow_Mo_ofField lk_8_59 (by decide) mi_Mo_errs rfl rfl (Nat.le_of_ble_eq_true rfl) rfl (wp_isC (O_91 _)) (show h_Mo_errs ≤ _ from by decide) (m_errs _ 1 (by decide) (by decide) ?_)
      refine wp_Ki ?_
      refine wp_reti d_Mo_ofField_24 rt_Mo_ofField ?_
      exact lf_i (by decide) (mQ_er (e := 1) K (by decide) C fr.rf)
    · refine wp_iload_n d_Mo_ofField_8 rfl rfl ?_
      refine wp_iconst (x := nI 0) d_Mo_ofField_9 rfl ?_
      refine wp_bipush (x := nI 9) d_Mo_ofField_10 (by decide) ?_
      refine wp_invS d_Mo_ofField_12 ow_Mo_ofField lk_8_54 (by decide) mi_Mo_in rfl rfl (Nat.le_of_ble_eq_true rfl) rfl (show h_Mo_in ≤ _ from by decide) (m_in _ _ _ ?_)
      refine wp_Ki ?_
      refine wp_ifB_ne (pc' := 25) d_Mo_ofField_15 (by decide) (fun h15 => absurd ⟨h5, h15⟩ h) (fun h15 => ?_)
      refine wp_aload_n d_Mo_ofField_18 rfl rfl ?_
      refine wp_ldc (v := .int (-1000000001)) d_Mo_ofField_19 ow_Mo_ofField (by decide +kernel) ?_
      refine wp_invV d_Mo_ofField_21 ow_Mo_ofField lk_8_59 (by decide) mi_Mo_errs rfl rfl (Nat.le_of_ble_eq_true rfl) rfl (wp_isC (O_91 _)) (show h_Mo_errs ≤ _ from by decide) (m_errs _ 1 (by decide) (by decide) ?_)
      refine wp_Ki ?_
      refine wp_reti d_Mo_ofField_24 rt_Mo_ofField ?_
      exact lf_i (by decide) (mQ_er (e := 1) K (by decide) C fr.rf)
theorem mC_mute (C : mC S q mu) (x : Int32) : mC (wp_u S 91 7 x) q x := ⟨(funext fun j => (if_neg (by omega) : (if 92 = 91 ∧ j = 7 then x else S.2 92 j) = S.2 92 j)).trans C.1, (if_pos ⟨rfl, rfl⟩ : (if 91 = 91 ∧ 7 = 7 then x else S.2 91 7) = x)⟩
noncomputable def op_silence (q : sp_R) (v o : Int32) : sp_Out := sp_if (sp_isF q v ∧ sp_isW o 3) (0, sp_acres q (-1) o (sp_n q) - sp_acres q v o (sp_n q), q) (sp_bad q 1)
theorem m_silence (C : mC S q (-1)) (hw : sp_wf q) (v o : Int32) (K : mQ S (op_silence q v o) Q) : cl h_Mo_silence y_Mo_silence [.ref k_Mo, .int v, .int o] S Q := by
  unfold op_silence at K
  by_cases h : sp_isF q v ∧ sp_isW o 3
  · rw [sp_if_t h] at K
    have hY : ∀ {S1 : wp_S} {x : Int32}, fr mY S S1 → fr mY S (wp_u S1 91 7 x) := fun f => f.up (Or.inr (Or.inr (Or.inr (Or.inr (Or.inr (Or.inr (Or.inr (Or.inr ⟨rfl, rfl⟩))))))))
    refine cl_in ml_Mo_silence rfl rfl ?_
    refine wp_aload_n d_Mo_silence_0 rfl rfl ?_
    refine wp_iload_n d_Mo_silence_1 rfl rfl ?_
    refine wp_invV d_Mo_silence_2 ow_Mo_silence lk_8_93 (by decide) mi_Mo_isField rfl rfl (Nat.le_of_ble_eq_true rfl) rfl (wp_isC (O_91 _)) (show h_Mo_isField ≤ _ from by decide) (m_isField C.1 _ ?_)
    refine wp_Ki ?_
    refine wp_ifB_eq (pc' := 15) d_Mo_silence_5 (by decide) (fun h5 => absurd h.1 h5) (fun h5 => ?_)
    refine wp_iload_n d_Mo_silence_8 rfl rfl ?_
    refine wp_invS d_Mo_silence_9 ow_Mo_silence lk_8_100 (by decide) mi_Mo_isOwner rfl rfl (Nat.le_of_ble_eq_true rfl) rfl (show h_Mo_isOwner ≤ _ from by decide) (m_isOwner _ ?_)
    refine wp_Ki ?_
    refine wp_ifB_ne (pc' := 22) d_Mo_silence_12 (by decide) (fun h12 => ?_) (fun h12 => absurd h.2 h12)
    refine wp_aload_n d_Mo_silence_22 rfl rfl ?_
    refine wp_iload_n d_Mo_silence_23 rfl rfl ?_
    refine wp_invV d_Mo_silence_24 ow_Mo_silence lk_8_103 (by decide) mi_Mo_acresOf rfl rfl (Nat.le_of_ble_eq_true rfl) rfl (wp_isC (O_91 _)) (show h_Mo_acresOf ≤ _ from by decide) (m_acresOf C hw o (fun S2 f2 => ?_))
    refine wp_Ki ?_
    refine wp_iston3 d_Mo_silence_27 rfl ?_
    refine wp_aload_n d_Mo_silence_28 rfl rfl ?_
    refine wp_iload_n d_Mo_silence_29 rfl rfl ?_
    refine wp_put (ty := .int) d_Mo_silence_30 ow_Mo_silence fl_8_25 (by decide +kernel) (by decide +kernel) (O_91 _) rfl ⟨rfl, rfl⟩ ?_
    refine wp_aload_n d_Mo_silence_33 rfl rfl ?_
    refine wp_iload_n d_Mo_silence_34 rfl rfl ?_
    refine wp_invV d_Mo_silence_35 ow_Mo_silence lk_8_103 (by decide) mi_Mo_acresOf rfl rfl (Nat.le_of_ble_eq_true rfl) rfl (wp_isC (O_91 _)) (show h_Mo_acresOf ≤ _ from by decide) (m_acresOf (mC_mute (C.fr f2) v) hw o (fun S3 f3 => ?_))
    refine wp_Ki ?_
    refine wp_isto4 d_Mo_silence_38 rfl ?_
    refine wp_aload_n d_Mo_silence_40 rfl rfl ?_
    refine wp_iconst (x := -1) d_Mo_silence_41 rfl ?_
    refine wp_put (ty := .int) d_Mo_silence_42 ow_Mo_silence fl_8_25 (by decide +kernel) (by decide +kernel) (O_91 _) rfl ⟨rfl, rfl⟩ ?_
    refine wp_iload_n d_Mo_silence_45 rfl rfl ?_
    refine wp_iload d_Mo_silence_46 rfl ?_
    refine wp_isub d_Mo_silence_48 rfl ?_
    refine wp_reti d_Mo_silence_49 rt_Mo_silence ?_
    exact mQ_ok K (mC_mute ((mC_mute (C.fr f2) v).fr f3) (-1)) (hY ((hY (fr_YD f2)).tr (fr_YD f3)))
  · rw [sp_if_f h] at K
    refine cl_in ml_Mo_silence rfl rfl ?_
    refine wp_aload_n d_Mo_silence_0 rfl rfl ?_
    refine wp_iload_n d_Mo_silence_1 rfl rfl ?_
    refine wp_invV d_Mo_silence_2 ow_Mo_silence lk_8_93 (by decide) mi_Mo_isField rfl rfl (Nat.le_of_ble_eq_true rfl) rfl (wp_isC (O_91 _)) (show h_Mo_isField ≤ _ from by decide) (m_isField C.1 _ ?_)
    refine wp_Ki ?_
    refine wp_ifB_eq (pc' := 15) d_Mo_silence_5 (by decide) (fun h5 => ?_) (fun h5 => ?_)
    · refine wp_aload_n d_Mo_silence_15 rfl rfl ?_
      refine wp_ldc (v := .int (-1000000001)) d_Mo_silence_16 ow_Mo_silence (by decide +kernel) ?_
      refine wp_invV d_Mo_silence_18 ow_Mo_silence lk_8_59 (by decide) mi_Mo_errs rfl rfl (Nat.le_of_ble_eq_true rfl) rfl (wp_isC (O_91 _)) (show h_Mo_errs ≤ _ from by decide) (m_errs _ 1 (by decide) (by decide) ?_)
      refine wp_Ki ?_
      refine wp_reti d_Mo_silence_21 rt_Mo_silence ?_
      exact lf_i (by decide) (mQ_er (e := 1) K (by decide) C fr.rf)
    · refine wp_iload_n d_Mo_silence_8 rfl rfl ?_
      refine wp_invS d_Mo_silence_9 ow_Mo_silence lk_8_100 (by decide) mi_Mo_isOwner rfl rfl (Nat.le_of_ble_eq_true rfl) rfl (show h_Mo_isOwner ≤ _ from by decide) (m_isOwner _ ?_)
      refine wp_Ki ?_
      refine wp_ifB_ne (pc' := 22) d_Mo_silence_12 (by decide) (fun h12 => absurd ⟨h5, h12⟩ h) (fun h12 => ?_)
      refine wp_aload_n d_Mo_silence_15 rfl rfl ?_
      refine wp_ldc (v := .int (-1000000001)) d_Mo_silence_16 ow_Mo_silence (by decide +kernel) ?_
      refine wp_invV d_Mo_silence_18 ow_Mo_silence lk_8_59 (by decide) mi_Mo_errs rfl rfl (Nat.le_of_ble_eq_true rfl) rfl (wp_isC (O_91 _)) (show h_Mo_errs ≤ _ from by decide) (m_errs _ 1 (by decide) (by decide) ?_)
      refine wp_Ki ?_
      refine wp_reti d_Mo_silence_21 rt_Mo_silence ?_
      exact lf_i (by decide) (mQ_er (e := 1) K (by decide) C fr.rf)
/-- room of a trying of tellings -/
def mN (k j : Nat) : Prop := (k = 92 ∧ j < 283) ∨ k = 95 ∨ ps_D k j
theorem m_nd_loop {q0 : sp_R} (o i : Nat) (ho : o < 4) (K : ∀ S' r, (∀ j, j < 283 → S'.2 95 j = q0 j) → mC S' r (-1) → fr mN S S' → wp (h_Mo_neededOf - 1) y_Mo_neededOf 41 [some (.ref 91), some (.int (nI o)), some (.int (nI i)), some (.int (nI (sp_nf o i 10 q0 0)))] [] S' Q) : ∀ f k (r : sp_R) (S' : wp_S), k + f = 10 → sp_wf r → i < sp_n r → sp_nf o i f r k = sp_nf o i 10 q0 0 → mC S' r (-1) → (∀ j, j < 283 → S'.2 95 j = q0 j) → fr mN S S' → wp (h_Mo_neededOf - 1) y_Mo_neededOf 14 [some (.ref 91), some (.int (nI o)), some (.int (nI i)), some (.int (nI k))] [] S' Q := by
  intro f
  induction f with
  | zero =>
    intro k r S' hk hw hi e C h95 fS
    obtain rfl : k = 10 := by omega
    rw [sp_nf_0] at e
    rw [← e] at K
    refine wp_iload_n d_Mo_neededOf_14 rfl rfl ?_
    refine wp_bipush (x := nI 10) d_Mo_neededOf_15 (by decide) ?_
    refine wp_icN_ge (pc' := 41) d_Mo_neededOf_17 (by decide) (by omega) (by omega) (fun _ => ?_) (fun q => absurd q (by decide))
    exact K _ _ h95 C fS
  | succ f ih =>
    intro k r S' hk hw hi e C h95 fS
    have hn := hw.n
    rw [sp_nf_s] at e
    refine wp_iload_n d_Mo_neededOf_14 rfl rfl ?_
    refine wp_bipush (x := nI 10) d_Mo_neededOf_15 (by decide) ?_
    refine wp_icN_ge (pc' := 41) d_Mo_neededOf_17 (by decide) (by omega) (by omega) (fun h17 => absurd h17 (by omega)) (fun h17 => ?_)
    refine wp_aload_n d_Mo_neededOf_20 rfl rfl ?_
    refine wp_iload_n d_Mo_neededOf_21 rfl rfl ?_
    refine wp_invV d_Mo_neededOf_22 ow_Mo_neededOf lk_8_90 (by decide) mi_Mo_whose rfl rfl (Nat.le_of_ble_eq_true rfl) rfl (wp_isC (O_91 _)) (show h_Mo_whose ≤ _ from by decide) (m_whose C hw i hi (fun S2 f2 => ?_))
    refine wp_Ki ?_
    refine wp_iload_n d_Mo_neededOf_25 rfl rfl ?_
    refine wp_ic_eq (pc' := 41) d_Mo_neededOf_26 (by decide) (fun h26 => ?_) (fun h26 => ?_)
    · rw [sp_if_t h26] at e
      rw [← e] at K
      exact K _ _ (fun j hj => (f2.2 95 j (fun z => by unfold ps_D at z; omega)).trans (h95 j hj)) (C.fr f2) (fS.tr (f2.mono (fun _ _ z => Or.inr (Or.inr z))))
    · refine wp_aload_n d_Mo_neededOf_29 rfl rfl ?_
      refine wp_iload_n d_Mo_neededOf_30 rfl rfl ?_
      refine wp_iload_n d_Mo_neededOf_31 rfl rfl ?_
      refine wp_invV d_Mo_neededOf_32 ow_Mo_neededOf lk_8_113 (by decide) mi_Mo_hears rfl rfl (Nat.le_of_ble_eq_true rfl) rfl (wp_isC (O_91 _)) (show h_Mo_hears ≤ _ from by decide) (m_hears (C.fr f2) o i (by omega) ho (hw.f hi) (fun S3 C3 f3 => ?_))
      refine wp_Kv ?_
      refine wp_iinc3 d_Mo_neededOf_35 rfl (nI_add _ 1) ?_
      refine wp_goto (pc' := 14) d_Mo_neededOf_38 (by decide) ?_
      rw [sp_if_f h26] at e
      exact ih (k + 1) _ S3 (by omega) (sp_hr_wf hw hi ho) (by rw [sp_hr_n r o i ho]; exact hi) e C3 (fun j hj => (f3.2 95 j (fun z => by unfold mR at z; omega)).trans ((f2.2 95 j (fun z => by unfold ps_D at z; omega)).trans (h95 j hj))) ((fS.tr (f2.mono (fun _ _ z => Or.inr (Or.inr z)))).tr (f3.mono (fun _ _ z => Or.inl z)))
theorem m_neededOf (C : mC S q (-1)) (hw : sp_wf q) (o i : Nat) (ho : o < 4) (hi : i < sp_n q) (K : ∀ S', mC S' q (-1) → fr mN S S' → Q (some (.int (nI (sp_nf o i 10 q 0)))) S') : cl h_Mo_neededOf y_Mo_neededOf [.ref k_Mo, .int (nI o), .int (nI i)] S Q := by
  have C1 : mC (mv S 92 95 283) q (-1) := ⟨(funext fun j => (if_neg (by omega) : (if 92 = 95 ∧ j < 283 then S.2 92 j else S.2 92 j) = S.2 92 j)).trans C.1, (if_neg (by omega) : (if 91 = 95 ∧ 7 < 283 then S.2 92 7 else S.2 91 7) = S.2 91 7).trans C.2⟩
  have f1 : fr mN S (mv S 92 95 283) := ⟨rfl, fun k j h => if_neg (fun z => h (Or.inr (Or.inl z.1)))⟩
  have h95 : ∀ j, j < 283 → (mv S 92 95 283).2 95 j = q j := fun j hj => (if_pos ⟨rfl, hj⟩ : (if 95 = 95 ∧ j < 283 then S.2 92 j else S.2 95 j) = S.2 92 j).trans (congrFun C.1 j)
  refine cl_in ml_Mo_neededOf rfl rfl ?_
  refine wp_aload_n d_Mo_neededOf_0 rfl rfl ?_
  refine wp_aload_n d_Mo_neededOf_1 rfl rfl ?_
  refine wp_getR d_Mo_neededOf_2 ow_Mo_neededOf fl_8_7 (O_91 _) rfl ?_
  refine wp_aload_n d_Mo_neededOf_5 rfl rfl ?_
  refine wp_getR d_Mo_neededOf_6 ow_Mo_neededOf fl_8_19 (O_91 _) rfl ?_
  refine wp_invV d_Mo_neededOf_9 ow_Mo_neededOf lk_8_197 (by decide) mi_Mo_moveAll rfl rfl (Nat.le_of_ble_eq_true rfl) rfl (wp_isC (O_91 _)) (show h_Mo_moveAll ≤ _ from by decide) (m_moveAll (a := 92) (b := 95) (by decide) A_92 A_95 ?_)
  refine wp_Kv ?_
  refine wp_iconst (x := nI 0) d_Mo_neededOf_12 rfl ?_
  refine wp_iston3 d_Mo_neededOf_13 rfl ?_
  refine m_nd_loop (S := S) o i ho (fun S' r h95' C' f' => ?_) 10 0 q _ (by omega) hw hi rfl C1 h95 f1
  refine wp_aload_n d_Mo_neededOf_41 rfl rfl ?_
  refine wp_aload_n d_Mo_neededOf_42 rfl rfl ?_
  refine wp_getR d_Mo_neededOf_43 ow_Mo_neededOf fl_8_19 (O_91 _) rfl ?_
  refine wp_aload_n d_Mo_neededOf_46 rfl rfl ?_
  refine wp_getR d_Mo_neededOf_47 ow_Mo_neededOf fl_8_7 (O_91 _) rfl ?_
  refine wp_invV d_Mo_neededOf_50 ow_Mo_neededOf lk_8_197 (by decide) mi_Mo_moveAll rfl rfl (Nat.le_of_ble_eq_true rfl) rfl (wp_isC (O_91 _)) (show h_Mo_moveAll ≤ _ from by decide) (m_moveAll (a := 95) (b := 92) (by decide) A_95 A_92 ?_)
  refine wp_Kv ?_
  refine wp_iload_n d_Mo_neededOf_53 rfl rfl ?_
  refine wp_reti d_Mo_neededOf_54 rt_Mo_neededOf ?_
  refine K _ ⟨funext fun j => ?_, (if_neg (by omega) : (if 91 = 92 ∧ 7 < 283 then S'.2 95 7 else S'.2 91 7) = S'.2 91 7).trans C'.2⟩ (f'.tr ⟨rfl, fun k j h => if_neg (fun z => h (Or.inl z))⟩)
  show (if 92 = 92 ∧ j < 283 then S'.2 95 j else S'.2 92 j) = q j
  by_cases hj : j < 283
  · rw [if_pos ⟨rfl, hj⟩]
    exact h95' j hj
  · rw [if_neg (fun z => hj z.2), f'.2 92 j (fun z => by unfold mN ps_D at z; omega)]
    exact congrFun C.1 j
noncomputable def op_needed (q : sp_R) (o v : Int32) : sp_Out := sp_if (sp_isW o 3 ∧ sp_isF q v) (sp_if (sp_nf o.toNatClampNeg v.toNatClampNeg 10 q 0 ≤ 9) (0, nI (sp_nf o.toNatClampNeg v.toNatClampNeg 10 q 0), q) (sp_bad q 2)) (sp_bad q 1)
theorem fr_YN {S S' : wp_S} (h : fr mN S S') : fr mY S S' := h.mono (fun _ _ z => by
  rcases z with z | z | z
  · exact Or.inl z
  · exact Or.inr (Or.inr (Or.inl z))
  · exact Or.inr (Or.inr (Or.inr (Or.inr (Or.inr (Or.inr (Or.inr (Or.inl z))))))))
theorem m_needed (C : mC S q (-1)) (hw : sp_wf q) (o v : Int32) (K : mQ S (op_needed q o v) Q) : cl h_Mo_needed y_Mo_needed [.ref k_Mo, .int o, .int v] S Q := by
  have hn := hw.n
  unfold op_needed at K
  by_cases h : sp_isW o 3 ∧ sp_isF q v
  · rw [sp_if_t h] at K
    obtain ⟨i, hi, rfl⟩ := sp_isF_of hw h.2
    obtain ⟨o', ho, rfl⟩ := (i_in (by decide)).mp h.1
    rw [nI_clamp (by omega), nI_clamp (by omega)] at K
    have hle := sp_nf_le o' i 10 q 0
    refine cl_in ml_Mo_needed rfl rfl ?_
    refine wp_iload_n d_Mo_needed_0 rfl rfl ?_
    refine wp_invS d_Mo_needed_1 ow_Mo_needed lk_8_100 (by decide) mi_Mo_isOwner rfl rfl (Nat.le_of_ble_eq_true rfl) rfl (show h_Mo_isOwner ≤ _ from by decide) (m_isOwner _ ?_)
    refine wp_Ki ?_
    refine wp_ifB_eq (pc' := 15) d_Mo_needed_4 (by decide) (fun h4 => absurd h.1 h4) (fun h4 => ?_)
    refine wp_aload_n d_Mo_needed_7 rfl rfl ?_
    refine wp_iload_n d_Mo_needed_8 rfl rfl ?_
    refine wp_invV d_Mo_needed_9 ow_Mo_needed lk_8_93 (by decide) mi_Mo_isField rfl rfl (Nat.le_of_ble_eq_true rfl) rfl (wp_isC (O_91 _)) (show h_Mo_isField ≤ _ from by decide) (m_isField C.1 _ ?_)
    refine wp_Ki ?_
    refine wp_ifB_ne (pc' := 22) d_Mo_needed_12 (by decide) (fun h12 => ?_) (fun h12 => absurd h.2 h12)
    refine wp_aload_n d_Mo_needed_22 rfl rfl ?_
    refine wp_iload_n d_Mo_needed_23 rfl rfl ?_
    refine wp_iload_n d_Mo_needed_24 rfl rfl ?_
    refine wp_invV d_Mo_needed_25 ow_Mo_needed lk_8_201 (by decide) mi_Mo_neededOf rfl rfl (Nat.le_of_ble_eq_true rfl) rfl (wp_isC (O_91 _)) (show h_Mo_neededOf ≤ _ from by decide) (m_neededOf C hw o' i (by omega) hi (fun S2 C2 f2 => ?_))
    refine wp_Ki ?_
    refine wp_iston3 d_Mo_needed_28 rfl ?_
    refine wp_iload_n d_Mo_needed_29 rfl rfl ?_
    refine wp_bipush (x := nI 9) d_Mo_needed_30 (by decide) ?_
    refine wp_icN_le (pc' := 44) d_Mo_needed_32 (by decide) (by omega) (by omega) (fun h32 => ?_) (fun h32 => ?_)
    · refine wp_iload_n d_Mo_needed_44 rfl rfl ?_
      refine wp_reti d_Mo_needed_45 rt_Mo_needed ?_
      rw [sp_if_t h32] at K
      exact mQ_ok K C2 (fr_YN f2)
    · refine wp_aload_n d_Mo_needed_35 rfl rfl ?_
      refine wp_ldc (v := .int (-1000000002)) d_Mo_needed_36 ow_Mo_needed (by decide +kernel) ?_
      refine wp_invV d_Mo_needed_38 ow_Mo_needed lk_8_59 (by decide) mi_Mo_errs rfl rfl (Nat.le_of_ble_eq_true rfl) rfl (wp_isC (O_91 _)) (show h_Mo_errs ≤ _ from by decide) (m_errs _ 2 (by decide) (by decide) ?_)
      refine wp_Ki ?_
      refine wp_goto (pc' := 45) d_Mo_needed_41 (by decide) ?_
      refine wp_reti d_Mo_needed_45 rt_Mo_needed ?_
      rw [sp_if_f (by omega)] at K
      exact lf_i (by decide) (mQ_er (e := 2) K (by decide) C2 (fr_YN f2))
  · rw [sp_if_f h] at K
    refine cl_in ml_Mo_needed rfl rfl ?_
    refine wp_iload_n d_Mo_needed_0 rfl rfl ?_
    refine wp_invS d_Mo_needed_1 ow_Mo_needed lk_8_100 (by decide) mi_Mo_isOwner rfl rfl (Nat.le_of_ble_eq_true rfl) rfl (show h_Mo_isOwner ≤ _ from by decide) (m_isOwner _ ?_)
    refine wp_Ki ?_
    refine wp_ifB_eq (pc' := 15) d_Mo_needed_4 (by decide) (fun h4 => ?_) (fun h4 => ?_)
    · refine wp_aload_n d_Mo_needed_15 rfl rfl ?_
      refine wp_ldc (v := .int (-1000000001)) d_Mo_needed_16 ow_Mo_needed (by decide +kernel) ?_
      refine wp_invV d_Mo_needed_18 ow_Mo_needed lk_8_59 (by decide) mi_Mo_errs rfl rfl (Nat.le_of_ble_eq_true rfl) rfl (wp_isC (O_91 _)) (show h_Mo_errs ≤ _ from by decide) (m_errs _ 1 (by decide) (by decide) ?_)
      refine wp_Ki ?_
      refine wp_reti d_Mo_needed_21 rt_Mo_needed ?_
      exact lf_i (by decide) (mQ_er (e := 1) K (by decide) C fr.rf)
    · refine wp_aload_n d_Mo_needed_7 rfl rfl ?_
      refine wp_iload_n d_Mo_needed_8 rfl rfl ?_
      refine wp_invV d_Mo_needed_9 ow_Mo_needed lk_8_93 (by decide) mi_Mo_isField rfl rfl (Nat.le_of_ble_eq_true rfl) rfl (wp_isC (O_91 _)) (show h_Mo_isField ≤ _ from by decide) (m_isField C.1 _ ?_)
      refine wp_Ki ?_
      refine wp_ifB_ne (pc' := 22) d_Mo_needed_12 (by decide) (fun h12 => absurd ⟨h4, h12⟩ h) (fun h12 => ?_)
      refine wp_aload_n d_Mo_needed_15 rfl rfl ?_
      refine wp_ldc (v := .int (-1000000001)) d_Mo_needed_16 ow_Mo_needed (by decide +kernel) ?_
      refine wp_invV d_Mo_needed_18 ow_Mo_needed lk_8_59 (by decide) mi_Mo_errs rfl rfl (Nat.le_of_ble_eq_true rfl) rfl (wp_isC (O_91 _)) (show h_Mo_errs ≤ _ from by decide) (m_errs _ 1 (by decide) (by decide) ?_)
      refine wp_Ki ?_
      refine wp_reti d_Mo_needed_21 rt_Mo_needed ?_
      exact lf_i (by decide) (mQ_er (e := 1) K (by decide) C fr.rf)
end OW
