/-! the class: what would be: least tellings -/
section CI
variable {S : wp_S} {q : sp_R} {mu : Int32} {Q : Option Value → wp_S → Prop}
/-- a field kept aside -/
def cSp (S : wp_S) (q : sp_R) (i b tb : Nat) : Prop := (∀ w, w < 6 → S.2 b (w + 2) = q (13 + 10 * i + w)) ∧ ∀ o, o < 4 → S.2 tb o = q (13 + 10 * i + (6 + o))
theorem CL_save (C : CL S q) {i b tb : Nat} (hi : i < sp_n q) (hb : 33 ≤ b) (ht : 33 ≤ tb) (hbt : b ≠ tb) : CL (fcp S b tb (13 + 2 * i) (14 + 2 * i)) q ∧ cSp (fcp S b tb (13 + 2 * i) (14 + 2 * i)) q i b tb := by
  have h10 := C.le
  refine ⟨C.fr (fun k j h => ?_), fun w hw => ?_, fun o ho => ?_⟩
  · show (if k = b ∧ 2 ≤ j ∧ j ≤ 7 then S.2 (13 + 2 * i) j else if k = tb ∧ j < 4 then S.2 (14 + 2 * i) j else S.2 k j) = S.2 k j
    unfold cW at h
    rw [if_neg (by omega), if_neg (by omega)]
  · show (if b = b ∧ 2 ≤ w + 2 ∧ w + 2 ≤ 7 then S.2 (13 + 2 * i) (w + 2) else if b = tb ∧ w + 2 < 4 then S.2 (14 + 2 * i) (w + 2) else S.2 b (w + 2)) = q (13 + 10 * i + w)
    rw [if_pos ⟨rfl, by omega, by omega⟩]
    exact C.f hi hw
  · show (if tb = b ∧ 2 ≤ o ∧ o ≤ 7 then S.2 (13 + 2 * i) o else if tb = tb ∧ o < 4 then S.2 (14 + 2 * i) o else S.2 tb o) = q (13 + 10 * i + (6 + o))
    rw [if_neg (fun z => hbt z.1.symm), if_pos ⟨rfl, ho⟩]
    exact C.t hi ho
theorem CL_back {p : sp_R} (C : CL S p) {i b tb : Nat} (hi : i < 10) (hp : ∀ j, j < 13 + 10 * i ∨ 23 + 10 * i ≤ j → p j = q j) (hs : cSp S q i b tb) : CL (fcp S (13 + 2 * i) (14 + 2 * i) b tb) q := by
  have hx : ∀ u, sp_tx p u = sp_tx q u := fun u => funext fun k => hp _ (by omega)
  have h6 : ∀ u, u < 2 → p (6 + u) = q (6 + u) := fun u hu => hp _ (by omega)
  have hc : ∀ u, u < 2 → sp_code p u = sp_code q u := fun u hu => by
    unfold sp_code
    rw [h6 u hu, hx u]
  have ht : ∀ u, u < 2 → sp_tw p u → sp_tw q u := fun u hu h => by
    unfold sp_tw at *
    rw [h6 u hu, hx u] at h
    exact h
  have en : sp_n p = sp_n q := by
    unfold sp_n
    rw [hp 0 (by omega)]
  refine ⟨⟨fun j h1 h2 h3 h4 => ?_, by rw [← en]; exact C.le⟩, fun k hk => ?_, fun u hu => ?_⟩
  · by_cases hj : 13 + 10 * i ≤ j ∧ j < 23 + 10 * i
    · by_cases hw : j < 19 + 10 * i
      · obtain ⟨w, rfl⟩ : ∃ w, j = 13 + 10 * i + w := ⟨j - (13 + 10 * i), by omega⟩
        rw [cc_f hi (by omega)]
        show (if 13 + 2 * i = 13 + 2 * i ∧ 2 ≤ w + 2 ∧ w + 2 ≤ 7 then S.2 b (w + 2) else _) = q (13 + 10 * i + w)
        rw [if_pos ⟨rfl, by omega, by omega⟩]
        exact hs.1 w (by omega)
      · obtain ⟨o, rfl⟩ : ∃ o, j = 13 + 10 * i + (6 + o) := ⟨j - (19 + 10 * i), by omega⟩
        rw [cc_t hi (by omega)]
        show (if 14 + 2 * i = 13 + 2 * i ∧ 2 ≤ o ∧ o ≤ 7 then S.2 b o else if 14 + 2 * i = 14 + 2 * i ∧ o < 4 then S.2 tb o else _) = q (13 + 10 * i + (6 + o))
        rw [if_neg (by omega), if_pos ⟨rfl, by omega⟩]
        exact hs.2 o (by omega)
    · have n1 : ¬ ((cc j).1 = 13 + 2 * i ∧ 2 ≤ (cc j).2 ∧ (cc j).2 ≤ 7) := fun z => by
        have e : cc j = cc (13 + 10 * i + ((cc j).2 - 2)) := by
          rw [cc_f hi (by omega)]
          exact Prod.ext z.1 (by show (cc j).2 = (cc j).2 - 2 + 2; omega)
        have := cc_inj h1 (by omega) e
        omega
      have n2 : ¬ ((cc j).1 = 14 + 2 * i ∧ (cc j).2 < 4) := fun z => by
        have e : cc j = cc (13 + 10 * i + (6 + (cc j).2)) := by
          rw [cc_t hi z.2]
          exact Prod.ext z.1 rfl
        have := cc_inj h1 (by omega) e
        omega
      show (if (cc j).1 = 13 + 2 * i ∧ 2 ≤ (cc j).2 ∧ (cc j).2 ≤ 7 then S.2 b (cc j).2 else if (cc j).1 = 14 + 2 * i ∧ (cc j).2 < 4 then S.2 tb (cc j).2 else S.2 (cc j).1 (cc j).2) = q j
      rw [if_neg n1, if_neg n2, C.1.1 j h1 h2 h3 (by unfold sp_us1 at *; rw [en]; exact h4)]
      exact hp j (by omega)
  · show (if 13 + 2 * k = 13 + 2 * i ∧ 2 ≤ 0 ∧ 0 ≤ 7 then S.2 b 0 else if 13 + 2 * k = 14 + 2 * i ∧ 0 < 4 then S.2 tb 0 else S.2 (13 + 2 * k) 0) = nI k
    rw [if_neg (by omega), if_neg (by omega)]
    exact C.2.1 k hk
  · have L := C.2.2 u hu
    unfold cLw at L ⊢
    rw [hc u hu] at L
    refine ⟨ht u hu L.1, L.2.1, ?_, fun k x hk => ?_⟩
    · show (if 4 + 3 * u = 13 + 2 * i ∧ 2 ≤ 3 ∧ 3 ≤ 7 then _ else if 4 + 3 * u = 14 + 2 * i ∧ 3 < 4 then _ else S.2 (4 + 3 * u) 3) = _
      rw [if_neg (by omega), if_neg (by omega)]
      exact L.2.2.1
    · show (if 5 + 3 * u = 13 + 2 * i ∧ 2 ≤ k ∧ k ≤ 7 then _ else if 5 + 3 * u = 14 + 2 * i ∧ k < 4 then _ else S.2 (5 + 3 * u) k) = _
      rw [if_neg (by omega), if_neg (by omega)]
      exact L.2.2.2 k x hk
/-- room of a thought that uses the first spares -/
def cTl (l k _j : Nat) : Prop := (1 ≤ k ∧ k ≤ 32) ∨ (71 ≤ k ∧ k < 71 + 2 * l)
theorem fcp_fr {D : Nat → Nat → Prop} {a ta b tb : Nat} (h : ∀ j, D a j ∧ D ta j) : fr D S (fcp S a ta b tb) := ⟨rfl, fun k j z => by
  show (if k = a ∧ 2 ≤ j ∧ j ≤ 7 then S.2 b j else if k = ta ∧ j < 4 then S.2 tb j else S.2 k j) = S.2 k j
  rw [if_neg (fun y => z (by rw [y.1]; exact (h j).1)), if_neg (fun y => z (by rw [y.1]; exact (h j).2))]⟩
theorem fr_TL {S S' : wp_S} {l : Nat} (f : fr cLd S S') : fr (cTl l) S S' := f.mono (fun _ _ z => Or.inl z)
theorem fr_YT {S S' : wp_S} {l : Nat} (hl : l ≤ 4) (f : fr (cTl l) S S') : fr cY S S' := f.mono (fun _ _ z => by unfold cTl at z; unfold cY; omega)
theorem cSp_k {S' : wp_S} {i b tb : Nat} (h : cSp S q i b tb) {D : Nat → Nat → Prop} (f : fr D S S') (hD : ∀ j, ¬ D b j ∧ ¬ D tb j) : cSp S' q i b tb := ⟨fun w hw => (f.2 b _ (hD _).1).trans (h.1 w hw), fun o ho => (f.2 tb _ (hD _).2).trans (h.2 o ho)⟩
noncomputable def sp_lt (q : sp_R) (o i : Nat) : Int32 := sp_if (sp_nf o i 10 q 0 ≤ 9) (nI (sp_nf o i 10 q 0)) (-1)
theorem sp_nf_ge (o i : Nat) : ∀ f q n, n ≤ sp_nf o i f q n := by
  intro f
  induction f with
  | zero => exact fun q n => by rw [sp_nf_0]; exact Nat.le_refl _
  | succ f ih =>
    intro q n
    rw [sp_nf_s]
    by_cases h : sp_who q (-1) i = nI o
    · rw [sp_if_t h]; exact Nat.le_refl _
    · rw [sp_if_f h]
      have := ih (sp_hr q o i) (n + 1)
      omega
theorem c_lt_loop {o i N : Nat} (ho : o < 4) (hi : i < 10) (K : ∀ S' r l5, CL S' r → (∀ j, j < 13 + 10 * i ∨ 23 + 10 * i ≤ j → r j = q j) → cSp S' q i 71 72 → fr (cTl 1) S S' → wp (h_Th_leastTellings - 1) y_Th_leastTellings 66 [some (.ref 67), some (.int (nI o)), some (.int (nI i)), some (.ref (13 + 2 * i)), some (.int (sp_if (N ≤ 9) (nI N) (-1))), l5] [] S' Q) : ∀ f k (r : sp_R) (S' : wp_S), k + f = 10 → sp_wf r → i < sp_n r → sp_nf o i f r k = N → (∀ j, j < 13 + 10 * i ∨ 23 + 10 * i ≤ j → r j = q j) → CL S' r → cSp S' q i 71 72 → fr (cTl 1) S S' → wp (h_Th_leastTellings - 1) y_Th_leastTellings 26 [some (.ref 67), some (.int (nI o)), some (.int (nI i)), some (.ref (13 + 2 * i)), some (.int (-1)), some (.int (nI k))] [] S' Q := by
  intro f
  induction f with
  | zero =>
    intro k r S' hk hw hi' e hr C s fS
    obtain rfl : k = 10 := by omega
    rw [sp_nf_0] at e
    subst e
    rw [sp_if_f (by decide)] at K
    refine wp_iload d_Th_leastTellings_26 rfl ?_
    refine wp_bipush (x := nI 9) d_Th_leastTellings_28 (by decide) ?_
    refine wp_icN_gt (pc' := 66) d_Th_leastTellings_30 (by decide) (by omega) (by omega) (fun _ => ?_) (fun q => absurd q (by decide))
    exact K _ _ _ C hr s fS
  | succ f ih =>
    intro k r S' hk hw hi' e hr C s fS
    have hn := hw.n
    rw [sp_nf_s] at e
    have hh : ∀ j, j < 13 + 10 * i ∨ 23 + 10 * i ≤ j → sp_hr r o i j = q j := fun j hj => (sp_hr_ne r o i hj ho).trans (hr j hj)
    have hc : ∀ {S1 S2 : wp_S}, fr cS S1 S2 → cSp S1 q i 71 72 → cSp S2 q i 71 72 := fun f h => cSp_k h f (fun j => ⟨by unfold cS; omega, by unfold cS; omega⟩)
    have hF : ∀ {S1 S2 : wp_S}, fr (cF i) S1 S2 → cSp S1 q i 71 72 → cSp S2 q i 71 72 := fun f h => cSp_k h f (fun j => ⟨by unfold cF; omega, by unfold cF; omega⟩)
    have K' : ∀ S3, sp_who r (-1) i = nI o → CL S3 (sp_hr r o i) → cSp S3 q i 71 72 → fr (cTl 1) S S3 → wp (h_Th_leastTellings - 1) y_Th_leastTellings 26 [some (.ref 67), some (.int (nI o)), some (.int (nI i)), some (.ref (13 + 2 * i)), some (.int (nI k)), some (.int (nI (k + 1)))] [] S3 Q := by
      intro S3 h C3 s3 f3
      rw [sp_if_t h] at e
      subst e
      rw [sp_if_t (by omega)] at K
      refine wp_iload d_Th_leastTellings_26 rfl ?_
      refine wp_bipush (x := nI 9) d_Th_leastTellings_28 (by decide) ?_
      refine wp_icN_gt (pc' := 66) d_Th_leastTellings_30 (by decide) (by omega) (by omega) (fun h30 => ?_) (fun h30 => ?_)
      · exact K _ _ _ C3 hh s3 f3
      · refine wp_iload d_Th_leastTellings_33 rfl ?_
        refine wp_ifN_ge (pc' := 66) d_Th_leastTellings_35 (by decide) (by omega) ?_
        exact K _ _ _ C3 hh s3 f3
    refine wp_iload d_Th_leastTellings_26 rfl ?_
    refine wp_bipush (x := nI 9) d_Th_leastTellings_28 (by decide) ?_
    refine wp_icN_gt (pc' := 66) d_Th_leastTellings_30 (by decide) (by omega) (by omega) (fun h30 => absurd h30 (by omega)) (fun h30 => ?_)
    refine wp_iload d_Th_leastTellings_33 rfl ?_
    refine wp_if_ge (pc' := 66) d_Th_leastTellings_35 (by decide) (fun h35 => absurd (show (-1 : Int32) < 0 from by decide) (Int32.not_lt.mpr h35)) (fun h35 => ?_)
    refine wp_aload_n d_Th_leastTellings_38 rfl rfl ?_
    refine wp_getR d_Th_leastTellings_39 ow_Th_leastTellings fl_5_31 (O_67 _) rfl ?_
    refine wp_iload_n d_Th_leastTellings_42 rfl rfl ?_
    refine wp_iconst (x := -1) d_Th_leastTellings_43 rfl ?_
    refine wp_invV d_Th_leastTellings_44 ow_Th_leastTellings lk_5_47 (by decide) mi_La_ownerOf rfl rfl (Nat.le_of_ble_eq_true rfl) rfl (wp_isC (O_1 _)) (show h_La_ownerOf ≤ _ from by decide) (c_ownerOf C hw (-1) i hi' (fun S2 f2 => ?_))
    refine wp_Ki ?_
    refine wp_iload_n d_Th_leastTellings_47 rfl rfl ?_
    refine wp_ic_ne (pc' := 55) d_Th_leastTellings_48 (by decide) (fun h48 => ?_) (fun h48 => ?_)
    · refine wp_aload_n d_Th_leastTellings_55 rfl rfl ?_
      refine wp_iload_n d_Th_leastTellings_56 rfl rfl ?_
      refine wp_invV d_Th_leastTellings_57 ow_Th_leastTellings lk_5_51 (by decide) mi_Fi_listen rfl rfl (Nat.le_of_ble_eq_true rfl) rfl (wp_isC (O_F _ (by omega))) (show h_Fi_listen ≤ _ from by decide) (c_listen (CL_st C f2) hi' ho (hw.f hi') (fun S3 zC3 zf3 => ?_))
      refine wp_Kv ?_
      refine wp_iinc5 d_Th_leastTellings_60 rfl (nI_add _ 1) ?_
      refine wp_goto (pc' := 26) d_Th_leastTellings_63 (by decide) ?_
      first
      | exact K' S3 h48 zC3 (hF zf3 (hc f2 s)) ((fS.tr (fr_TL (fr_LS f2))).tr (fr_TL (fr_LF hi zf3)))
      | (rw [sp_if_f h48] at e
         exact ih (k + 1) _ S3 (by omega) (sp_hr_wf hw hi' ho) (by rw [sp_hr_n r o i ho]; exact hi') e hh zC3 (hF zf3 (hc f2 s)) ((fS.tr (fr_TL (fr_LS f2))).tr (fr_TL (fr_LF hi zf3))))
    · refine wp_iload d_Th_leastTellings_51 rfl ?_
      refine wp_isto4 d_Th_leastTellings_53 rfl ?_
      refine wp_aload_n d_Th_leastTellings_55 rfl rfl ?_
      refine wp_iload_n d_Th_leastTellings_56 rfl rfl ?_
      refine wp_invV d_Th_leastTellings_57 ow_Th_leastTellings lk_5_51 (by decide) mi_Fi_listen rfl rfl (Nat.le_of_ble_eq_true rfl) rfl (wp_isC (O_F _ (by omega))) (show h_Fi_listen ≤ _ from by decide) (c_listen (CL_st C f2) hi' ho (hw.f hi') (fun S3 zC3 zf3 => ?_))
      refine wp_Kv ?_
      refine wp_iinc5 d_Th_leastTellings_60 rfl (nI_add _ 1) ?_
      refine wp_goto (pc' := 26) d_Th_leastTellings_63 (by decide) ?_
      first
      | exact K' S3 h48 zC3 (hF zf3 (hc f2 s)) ((fS.tr (fr_TL (fr_LS f2))).tr (fr_TL (fr_LF hi zf3)))
      | (rw [sp_if_f h48] at e
         exact ih (k + 1) _ S3 (by omega) (sp_hr_wf hw hi' ho) (by rw [sp_hr_n r o i ho]; exact hi') e hh zC3 (hF zf3 (hc f2 s)) ((fS.tr (fr_TL (fr_LS f2))).tr (fr_TL (fr_LF hi zf3))))
theorem c_leastTellings (C : CL S q) (hw : sp_wf q) {o i : Nat} (ho : o < 4) (hi : i < sp_n q) (K : ∀ S', CL S' q → fr (cTl 1) S S' → Q (some (.int (sp_lt q o i))) S') : cl h_Th_leastTellings y_Th_leastTellings [.ref 67, .int (nI o), .int (nI i)] S Q := by
  have hn := hw.n
  have hi10 : i < 10 := by omega
  obtain ⟨C1, s1⟩ := CL_save C hi (b := 71) (tb := 72) (by decide) (by decide) (by decide)
  have f1 : fr (cTl 1) S (fcp S 71 72 (13 + 2 * i) (14 + 2 * i)) := fcp_fr (fun j => ⟨Or.inr ⟨by decide, by decide⟩, Or.inr ⟨by decide, by decide⟩⟩)
  refine cl_in ml_Th_leastTellings rfl rfl ?_
  refine wp_aload_n d_Th_leastTellings_0 rfl rfl ?_
  refine wp_getR d_Th_leastTellings_1 ow_Th_leastTellings fl_5_31 (O_67 _) rfl ?_
  refine wp_getR d_Th_leastTellings_4 ow_Th_leastTellings fl_5_38 (O_1 _) rfl ?_
  refine wp_iload_n d_Th_leastTellings_7 rfl rfl ?_
  refine wp_aaload d_Th_leastTellings_8 rfl (f_F (by omega)) (by decide) ?_
  refine wp_aston3 d_Th_leastTellings_9 rfl ?_
  refine wp_aload_n d_Th_leastTellings_10 rfl rfl ?_
  refine wp_getR d_Th_leastTellings_11 ow_Th_leastTellings fl_5_20 (O_67 _) rfl ?_
  refine wp_iconst (x := nI 0) d_Th_leastTellings_14 rfl ?_
  refine wp_aaload d_Th_leastTellings_15 rfl rfl (by decide) ?_
  refine wp_aload_n d_Th_leastTellings_16 rfl rfl ?_
  refine wp_invV d_Th_leastTellings_17 ow_Th_leastTellings lk_5_43 (by decide) mi_Fi_copyFrom rfl rfl (Nat.le_of_ble_eq_true rfl) rfl (wp_isC (O_71 _)) (show h_Fi_copyFrom ≤ _ from by decide) (c_fcopy O_71 (fun S => O_F S hi10) A_72 (fun S => A_G S hi10) (by decide) (by omega) (by omega) ?_)
  refine wp_Kv ?_
  refine wp_iconst (x := -1) d_Th_leastTellings_20 rfl ?_
  refine wp_isto4 d_Th_leastTellings_21 rfl ?_
  refine wp_iconst (x := nI 0) d_Th_leastTellings_23 rfl ?_
  refine wp_isto5 d_Th_leastTellings_24 rfl ?_
  refine c_lt_loop (S := S) (q := q) ho hi10 (fun S' r l5 C' hr s f => ?_) 10 0 q _ rfl hw hi rfl (fun j _ => rfl) C1 s1 f1
  refine wp_aload_n d_Th_leastTellings_66 rfl rfl ?_
  refine wp_aload_n d_Th_leastTellings_67 rfl rfl ?_
  refine wp_getR d_Th_leastTellings_68 ow_Th_leastTellings fl_5_20 (O_67 _) rfl ?_
  refine wp_iconst (x := nI 0) d_Th_leastTellings_71 rfl ?_
  refine wp_aaload d_Th_leastTellings_72 rfl rfl (by decide) ?_
  refine wp_invV d_Th_leastTellings_73 ow_Th_leastTellings lk_5_43 (by decide) mi_Fi_copyFrom rfl rfl (Nat.le_of_ble_eq_true rfl) rfl (wp_isC (O_F _ (by omega))) (show h_Fi_copyFrom ≤ _ from by decide) (c_fcopy (fun S => O_F S hi10) O_71 (fun S => A_G S hi10) A_72 (by omega) (by omega) (by omega) ?_)
  refine wp_Kv ?_
  refine wp_iload d_Th_leastTellings_76 rfl ?_
  refine wp_reti d_Th_leastTellings_78 rt_Th_leastTellings ?_
  exact K _ (CL_back C' hi10 hr s) (f.tr (fcp_fr (fun j => ⟨Or.inl (by omega), Or.inl (by omega)⟩)))
theorem c_needed (C : CL S q) (hw : sp_wf q) (o v : Int32) (K : cQ S (op_needed q o v) Q) : cl h_Fo_needed y_Fo_needed [.ref 0, .int o, .int v] S Q := by
  have hn := hw.n
  unfold op_needed at K
  by_cases h : sp_isW o 3 ∧ sp_isF q v
  · rw [sp_if_t h] at K
    obtain ⟨i, hi, rfl⟩ := sp_isF_of hw h.2
    obtain ⟨o', ho, rfl⟩ := (i_in (by decide)).mp h.1
    rw [nI_clamp (by omega), nI_clamp (by omega)] at K
    by_cases h9 : sp_nf o' i 10 q 0 ≤ 9
    · rw [sp_if_t h9] at K
      have e : sp_lt q o' i = nI (sp_nf o' i 10 q 0) := sp_if_t h9
      refine cl_in ml_Fo_needed rfl rfl ?_
      refine wp_iload_n d_Fo_needed_0 rfl rfl ?_
      refine wp_invS d_Fo_needed_1 ow_Fo_needed lk_7_125 (by decide) mi_Fo_isOwner rfl rfl (Nat.le_of_ble_eq_true rfl) rfl (show h_Fo_isOwner ≤ _ from by decide) (c_isOwner _ ?_)
      refine wp_Ki ?_
      refine wp_ifB_eq (pc' := 18) d_Fo_needed_4 (by decide) (fun h4 => absurd h.1 h4) (fun h4 => ?_)
      refine wp_aload_n d_Fo_needed_7 rfl rfl ?_
      refine wp_getR d_Fo_needed_8 ow_Fo_needed fl_7_10 (O_0 _) rfl ?_
      refine wp_iload_n d_Fo_needed_11 rfl rfl ?_
      refine wp_invV d_Fo_needed_12 ow_Fo_needed lk_7_90 (by decide) mi_La_has rfl rfl (Nat.le_of_ble_eq_true rfl) rfl (wp_isC (O_1 _)) (show h_La_has ≤ _ from by decide) (c_has C _ ?_)
      refine wp_Ki ?_
      refine wp_ifB_ne (pc' := 24) d_Fo_needed_15 (by decide) (fun h15 => ?_) (fun h15 => absurd h.2 h15)
      refine wp_aload_n d_Fo_needed_24 rfl rfl ?_
      refine wp_getR d_Fo_needed_25 ow_Fo_needed fl_7_37 (O_0 _) rfl ?_
      refine wp_iload_n d_Fo_needed_28 rfl rfl ?_
      refine wp_iload_n d_Fo_needed_29 rfl rfl ?_
      refine wp_invV d_Fo_needed_30 ow_Fo_needed lk_7_199 (by decide) mi_Th_leastTellings rfl rfl (Nat.le_of_ble_eq_true rfl) rfl (wp_isC (O_67 _)) (show h_Th_leastTellings ≤ _ from by decide) (c_leastTellings C hw (by omega) hi (fun S2 C2 f2 => lf_i e ?_))
      refine wp_Ki ?_
      refine wp_iston3 d_Fo_needed_33 rfl ?_
      refine wp_iload_n d_Fo_needed_34 rfl rfl ?_
      refine wp_ifN_ge (pc' := 46) d_Fo_needed_35 (by decide) (by omega) ?_
      refine wp_iload_n d_Fo_needed_46 rfl rfl ?_
      refine wp_reti d_Fo_needed_47 rt_Fo_needed ?_
      exact cQ_ok K C2 (fr_YT (by decide) f2)
    · rw [sp_if_f h9] at K
      have e : sp_lt q o' i = -1 := sp_if_f h9
      refine cl_in ml_Fo_needed rfl rfl ?_
      refine wp_iload_n d_Fo_needed_0 rfl rfl ?_
      refine wp_invS d_Fo_needed_1 ow_Fo_needed lk_7_125 (by decide) mi_Fo_isOwner rfl rfl (Nat.le_of_ble_eq_true rfl) rfl (show h_Fo_isOwner ≤ _ from by decide) (c_isOwner _ ?_)
      refine wp_Ki ?_
      refine wp_ifB_eq (pc' := 18) d_Fo_needed_4 (by decide) (fun h4 => absurd h.1 h4) (fun h4 => ?_)
      refine wp_aload_n d_Fo_needed_7 rfl rfl ?_
      refine wp_getR d_Fo_needed_8 ow_Fo_needed fl_7_10 (O_0 _) rfl ?_
      refine wp_iload_n d_Fo_needed_11 rfl rfl ?_
      refine wp_invV d_Fo_needed_12 ow_Fo_needed lk_7_90 (by decide) mi_La_has rfl rfl (Nat.le_of_ble_eq_true rfl) rfl (wp_isC (O_1 _)) (show h_La_has ≤ _ from by decide) (c_has C _ ?_)
      refine wp_Ki ?_
      refine wp_ifB_ne (pc' := 24) d_Fo_needed_15 (by decide) (fun h15 => ?_) (fun h15 => absurd h.2 h15)
      refine wp_aload_n d_Fo_needed_24 rfl rfl ?_
      refine wp_getR d_Fo_needed_25 ow_Fo_needed fl_7_37 (O_0 _) rfl ?_
      refine wp_iload_n d_Fo_needed_28 rfl rfl ?_
      refine wp_iload_n d_Fo_needed_29 rfl rfl ?_
      refine wp_invV d_Fo_needed_30 ow_Fo_needed lk_7_199 (by decide) mi_Th_leastTellings rfl rfl (Nat.le_of_ble_eq_true rfl) rfl (wp_isC (O_67 _)) (show h_Th_leastTellings ≤ _ from by decide) (c_leastTellings C hw (by omega) hi (fun S2 C2 f2 => lf_i e ?_))
      refine wp_Ki ?_
      refine wp_iston3 d_Fo_needed_33 rfl ?_
      refine wp_iload_n d_Fo_needed_34 rfl rfl ?_
      refine wp_if_ge (pc' := 46) d_Fo_needed_35 (by decide) (fun h35 => absurd (show (-1 : Int32) < 0 from by decide) (Int32.not_lt.mpr h35)) (fun h35 => ?_)
      refine wp_aload_n d_Fo_needed_38 rfl rfl ?_
      refine wp_iconst (x := nI 2) d_Fo_needed_39 rfl ?_
      refine wp_invV d_Fo_needed_40 ow_Fo_needed lk_7_70 (by decide) mi_Fo_error rfl rfl (Nat.le_of_ble_eq_true rfl) rfl (wp_isC (O_0 _)) (show h_Fo_error ≤ _ from by decide) (c_error 2 (by decide) (by decide) ?_)
      refine wp_Ki ?_
      refine wp_goto (pc' := 47) d_Fo_needed_43 (by decide) ?_
      refine wp_reti d_Fo_needed_47 rt_Fo_needed ?_
      exact cQ_er (e := 2) K (by decide) C2 (fr_YT (by decide) f2)
  · rw [sp_if_f h] at K
    refine cl_in ml_Fo_needed rfl rfl ?_
    refine wp_iload_n d_Fo_needed_0 rfl rfl ?_
    refine wp_invS d_Fo_needed_1 ow_Fo_needed lk_7_125 (by decide) mi_Fo_isOwner rfl rfl (Nat.le_of_ble_eq_true rfl) rfl (show h_Fo_isOwner ≤ _ from by decide) (c_isOwner _ ?_)
    refine wp_Ki ?_
    refine wp_ifB_eq (pc' := 18) d_Fo_needed_4 (by decide) (fun h4 => ?_) (fun h4 => ?_)
    · refine wp_aload_n d_Fo_needed_18 rfl rfl ?_
      refine wp_iconst (x := nI 1) d_Fo_needed_19 rfl ?_
      refine wp_invV d_Fo_needed_20 ow_Fo_needed lk_7_70 (by decide) mi_Fo_error rfl rfl (Nat.le_of_ble_eq_true rfl) rfl (wp_isC (O_0 _)) (show h_Fo_error ≤ _ from by decide) (c_error 1 (by decide) (by decide) ?_)
      refine wp_Ki ?_
      refine wp_reti d_Fo_needed_23 rt_Fo_needed ?_
      exact cQ_er (e := 1) K (by decide) C fr.rf
    · refine wp_aload_n d_Fo_needed_7 rfl rfl ?_
      refine wp_getR d_Fo_needed_8 ow_Fo_needed fl_7_10 (O_0 _) rfl ?_
      refine wp_iload_n d_Fo_needed_11 rfl rfl ?_
      refine wp_invV d_Fo_needed_12 ow_Fo_needed lk_7_90 (by decide) mi_La_has rfl rfl (Nat.le_of_ble_eq_true rfl) rfl (wp_isC (O_1 _)) (show h_La_has ≤ _ from by decide) (c_has C _ ?_)
      refine wp_Ki ?_
      refine wp_ifB_ne (pc' := 24) d_Fo_needed_15 (by decide) (fun h15 => absurd ⟨h4, h15⟩ h) (fun h15 => ?_)
      refine wp_aload_n d_Fo_needed_18 rfl rfl ?_
      refine wp_iconst (x := nI 1) d_Fo_needed_19 rfl ?_
      refine wp_invV d_Fo_needed_20 ow_Fo_needed lk_7_70 (by decide) mi_Fo_error rfl rfl (Nat.le_of_ble_eq_true rfl) rfl (wp_isC (O_0 _)) (show h_Fo_error ≤ _ from by decide) (c_error 1 (by decide) (by decide) ?_)
      refine wp_Ki ?_
      refine wp_reti d_Fo_needed_23 rt_Fo_needed ?_
      exact cQ_er (e := 1) K (by decide) C fr.rf
end CI
