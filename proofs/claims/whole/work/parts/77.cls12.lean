/-! the class: fears by which all say so; odds -/
theorem i_fa0 : ∀ k : Fin 256, nI k.val >>> (nI 6 &&& 31) = nI (sp_fv k.val 0) := by decide +kernel
theorem i_fb0 : ∀ k : Fin 256, (nI k.val >>> (nI 4 &&& 31)) &&& nI 3 = nI (sp_fv k.val 1) := by decide +kernel
theorem i_fc0 : ∀ k : Fin 256, (nI k.val >>> (nI 2 &&& 31)) &&& nI 3 = nI (sp_fv k.val 2) := by decide +kernel
theorem i_fd0 : ∀ k : Fin 256, nI k.val &&& nI 3 = nI (sp_fv k.val 3) := by decide +kernel
theorem sp_us_4 (k : Nat) : (((nI 1 <<< (nI (sp_fv k 0) &&& 31)) ||| (nI 1 <<< (nI (sp_fv k 1) &&& 31))) ||| (nI 1 <<< (nI (sp_fv k 2) &&& 31))) ||| (nI 1 <<< (nI (sp_fv k 3) &&& 31)) = sp_us k 4 := by
  rw [sp_us_s, sp_us_s, sp_us_s, sp_us_s, sp_us, show ∀ x : Int32, nI 0 ||| x = x from fun x => Int32.zero_or]
theorem sp_to_4 (k : Nat) : 1000 * sp_fv k 0 + 100 * sp_fv k 1 + 10 * sp_fv k 2 + sp_fv k 3 = sp_to k 4 := by
  rw [sp_to_s, sp_to_s, sp_to_s, sp_to_s, sp_to]
  omega
theorem sp_fq_p {p q : sp_R} (h : ∀ j, ¬ (9 ≤ j ∧ j < 13) → p j = q j) (k : Nat) : sp_up (sp_up (sp_up (sp_up p 9 (nI (sp_fv k 0))) 10 (nI (sp_fv k 1))) 11 (nI (sp_fv k 2))) 12 (nI (sp_fv k 3)) = sp_fq q k := by
  rw [← sp_fq_e]
  funext j
  unfold sp_fq
  by_cases hj : 9 ≤ j ∧ j < 13
  · rw [if_pos hj, if_pos hj]
  · rw [if_neg hj, if_neg hj, h j hj]
theorem nL_of {n : Nat} (h : n < 2 ^ 31) : (nI n).toInt64 = nL n := by
  rw [← Int64.toInt_inj, Jvm.Kit.i64_of_i32, nI_toInt h, nL_i (by omega)]
theorem nL_rem2 {a : Nat} (h : a < 2 ^ 63) : nL a - nL a / nL 2 * nL 2 = nL (a % 2) := by
  rw [← Int64.toInt_inj, Jvm.Kit.i64_rem_nonneg (by rw [nL_i h]; omega), nL_i h, nL_i (by omega), nL_i (by omega)]
  omega
section CN
variable {S : wp_S} {q : sp_R} {mu : Int32} {b z t : sp_R} {Q : Option Value → wp_S → Prop}
theorem CL_fears {p : sp_R} (C : CL S p) (hp : ∀ j, ¬ (9 ≤ j ∧ j < 13) → p j = q j) (h70 : ∀ o, o < 4 → S.2 70 o = q (9 + o)) : CL (wp_cp S 70 3 0 0 4) q := by
  have hx : ∀ u, sp_tx p u = sp_tx q u := fun u => funext fun k => hp _ (by omega)
  have h6 : ∀ u, u < 2 → p (6 + u) = q (6 + u) := fun u hu => hp _ (by omega)
  have hc : ∀ u, u < 2 → sp_code p u = sp_code q u := fun u hu => by
    unfold sp_code
    rw [h6 u hu, hx u]
  have ht : ∀ u, u < 2 → sp_tw p u → sp_tw q u := fun u hu h => by
    unfold sp_tw at *
    rw [h6 u hu, hx u] at h
    exact h
  have en : sp_n p = sp_n q := by
    unfold sp_n
    rw [hp 0 (by omega)]
  refine ⟨⟨fun j h1 h2 h3 h4 => ?_, by rw [← en]; exact C.le⟩, fun k hk => ?_, fun u hu => ?_⟩
  · rw [wp_cp2]
    by_cases hj : 9 ≤ j ∧ j < 13
    · obtain ⟨o, rfl⟩ : ∃ o, j = 9 + o := ⟨j - 9, by omega⟩
      rw [cc_9 (by omega), if_pos ⟨rfl, Nat.zero_le _, by omega⟩, show 0 + (o - 0) = o by omega]
      exact h70 o (by omega)
    · rw [if_neg (fun y => hj (by
        have e : cc j = cc (9 + (cc j).2) := by
          rw [cc_9 (by omega)]
          exact Prod.ext y.1 rfl
        have := cc_inj h1 (by omega) e
        omega)), C.1.1 j h1 h2 h3 (by unfold sp_us1 at *; rw [en]; exact h4)]
      exact hp j hj
  · rw [wp_cp2, if_neg (by omega)]
    exact C.2.1 k hk
  · have L := C.2.2 u hu
    unfold cLw at L ⊢
    rw [hc u hu] at L
    refine ⟨ht u hu L.1, L.2.1, ?_, fun k x hk => ?_⟩
    · rw [wp_cp2, if_neg (by omega)]
      exact L.2.2.1
    · rw [wp_cp2, if_neg (by omega)]
      exact L.2.2.2 k x hk
theorem c_sf_loop (hw : sp_wf q) {s : Nat} (hs : s < 4) (K : ∀ S' p l3 l4 l5 l6, CL S' p → (∀ j, ¬ (9 ≤ j ∧ j < 13) → p j = q j) → (∀ o, o < 4 → S'.2 70 o = q (9 + o)) → cFo S' (sp_fe q z t s 256) → fr cZ S S' → wp (h_Th_seekFears - 1) y_Th_seekFears 152 [some (.ref 67), some (.ref (82 + 2 * s)), some (.int (nI 256)), l3, l4, l5, l6] [] S' Q) : ∀ m k (S' : wp_S) p l3 l4 l5 l6, k + m = 256 → CL S' p → (∀ j, ¬ (9 ≤ j ∧ j < 13) → p j = q j) → (∀ o, o < 4 → S'.2 70 o = q (9 + o)) → cSh S' b z t → cFo S' (sp_fe q z t s k) → fr cZ S S' → wp (h_Th_seekFears - 1) y_Th_seekFears 24 [some (.ref 67), some (.ref (82 + 2 * s)), some (.int (nI k)), l3, l4, l5, l6] [] S' Q := by
  intro m
  induction m with
  | zero =>
    intro k S' p l3 l4 l5 l6 hk C hp h70 sh F fS
    obtain rfl : k = 256 := by omega
    refine wp_iload_n d_Th_seekFears_24 rfl rfl ?_
    refine wp_sipush (x := nI 256) d_Th_seekFears_25 (by decide) ?_
    refine wp_icN_ge (pc' := 152) d_Th_seekFears_28 (by decide) (by omega) (by omega) (fun _ => ?_) (fun q => absurd q (by decide))
    exact K S' p _ _ _ _ C hp h70 F fS
  | succ m ih =>
    intro k S' p l3 l4 l5 l6 hk C hp h70 sh F fS
    have hle := sp_fe_le q z t s k
    have e := sp_fe_s q z t s k
    have hk256 : k < 256 := by omega
    have ga := i_fa0 ⟨k, hk256⟩
    have gb := i_fb0 ⟨k, hk256⟩
    have gc := i_fc0 ⟨k, hk256⟩
    have gd := i_fd0 ⟨k, hk256⟩
    have gu := sp_us_4 k
    have gt := sp_to_4 k
    have v0 := sp_fv_lt k 0
    have v1 := sp_fv_lt k 1
    have v2 := sp_fv_lt k 2
    have v3 := sp_fv_lt k 3
    have C1 : CL (wp_u (wp_u (wp_u (wp_u S' 3 0 (nI (sp_fv k 0))) 3 1 (nI (sp_fv k 1))) 3 2 (nI (sp_fv k 2))) 3 3 (nI (sp_fv k 3))) (sp_fq q k) := by
      rw [← sp_fq_p hp k]
      exact (((C.w (j := 9) (by decide) (by decide) (by decide) _).w (j := 10) (by decide) (by decide) (by decide) _).w (j := 11) (by decide) (by decide) (by decide) _).w (j := 12) (by decide) (by decide) (by decide) _
    have f1 : fr cZ S' (wp_u (wp_u (wp_u (wp_u S' 3 0 (nI (sp_fv k 0))) 3 1 (nI (sp_fv k 1))) 3 2 (nI (sp_fv k 2))) 3 3 (nI (sp_fv k 3))) := (((fr.rf.up (Or.inl (Or.inl ⟨by decide, by decide⟩))).up (Or.inl (Or.inl ⟨by decide, by decide⟩))).up (Or.inl (Or.inl ⟨by decide, by decide⟩))).up (Or.inl (Or.inl ⟨by decide, by decide⟩))
    have ns : ∀ k j, 82 ≤ k → k < 90 → ¬ cZ k j := fun k j h1 h2 y => by unfold cZ cTl at y; omega
    have u67 : ∀ {S2 S3 : wp_S}, fr (fun k _ => k = 67) S2 S3 → fr cZ S2 S3 := fun f => f.mono (fun _ _ y => Or.inr (Or.inl y))
    have fq9 : ∀ j, ¬ (9 ≤ j ∧ j < 13) → sp_fq q k j = q j := fun j hj => if_neg hj
    generalize hS1 : (wp_u (wp_u (wp_u (wp_u S' 3 0 (nI (sp_fv k 0))) 3 1 (nI (sp_fv k 1))) 3 2 (nI (sp_fv k 2))) 3 3 (nI (sp_fv k 3))) = S1 at C1 f1
    have h701 : ∀ o, o < 4 → S1.2 70 o = q (9 + o) := fun o ho => by
      rw [← hS1]
      exact (wp_un (by omega)).trans ((wp_un (by omega)).trans ((wp_un (by omega)).trans ((wp_un (by omega)).trans (h70 o ho))))
    have F1 : cFo S1 (sp_fe q z t s k) := by
      rw [← hS1]
      exact ⟨(wp_un (by omega)).trans ((wp_un (by omega)).trans ((wp_un (by omega)).trans ((wp_un (by omega)).trans F.1))), fun y => (wp_un (by omega)).trans ((wp_un (by omega)).trans ((wp_un (by omega)).trans ((wp_un (by omega)).trans (F.2 y))))⟩
    have IH := fun S' p l3 l4 l5 l6 => ih (k + 1) S' p l3 l4 l5 l6 (by omega)
    clear ih
    rw [e] at IH
    generalize sp_fe q z t s k = rr at *
    have hN := sp_fq_wf hw k
    refine wp_iload_n d_Th_seekFears_24 rfl rfl ?_
    refine wp_sipush (x := nI 256) d_Th_seekFears_25 (by decide) ?_
    refine wp_icN_ge (pc' := 152) d_Th_seekFears_28 (by decide) (by omega) (by omega) (fun h28 => absurd h28 (by omega)) (fun h28 => ?_)
    refine wp_iload_n d_Th_seekFears_31 rfl rfl ?_
    refine wp_bipush (x := nI 6) d_Th_seekFears_32 (by decide) ?_
    refine wp_ishr d_Th_seekFears_34 (ga) ?_
    refine wp_iston3 d_Th_seekFears_35 rfl ?_
    refine wp_iload_n d_Th_seekFears_36 rfl rfl ?_
    refine wp_iconst (x := nI 4) d_Th_seekFears_37 rfl ?_
    refine wp_ishr d_Th_seekFears_38 rfl ?_
    refine wp_iconst (x := nI 3) d_Th_seekFears_39 rfl ?_
    refine wp_iand d_Th_seekFears_40 (gb) ?_
    refine wp_isto4 d_Th_seekFears_41 rfl ?_
    refine wp_iload_n d_Th_seekFears_43 rfl rfl ?_
    refine wp_iconst (x := nI 2) d_Th_seekFears_44 rfl ?_
    refine wp_ishr d_Th_seekFears_45 rfl ?_
    refine wp_iconst (x := nI 3) d_Th_seekFears_46 rfl ?_
    refine wp_iand d_Th_seekFears_47 (gc) ?_
    refine wp_isto5 d_Th_seekFears_48 rfl ?_
    refine wp_iload_n d_Th_seekFears_50 rfl rfl ?_
    refine wp_iconst (x := nI 3) d_Th_seekFears_51 rfl ?_
    refine wp_iand d_Th_seekFears_52 (gd) ?_
    refine wp_isto6 d_Th_seekFears_53 rfl ?_
    refine wp_iconst (x := nI 1) d_Th_seekFears_55 rfl ?_
    refine wp_iload_n d_Th_seekFears_56 rfl rfl ?_
    refine wp_ishl d_Th_seekFears_57 rfl ?_
    refine wp_iconst (x := nI 1) d_Th_seekFears_58 rfl ?_
    refine wp_iload d_Th_seekFears_59 rfl ?_
    refine wp_ishl d_Th_seekFears_61 rfl ?_
    refine wp_ior d_Th_seekFears_62 rfl ?_
    refine wp_iconst (x := nI 1) d_Th_seekFears_63 rfl ?_
    refine wp_iload d_Th_seekFears_64 rfl ?_
    refine wp_ishl d_Th_seekFears_66 rfl ?_
    refine wp_ior d_Th_seekFears_67 rfl ?_
    refine wp_iconst (x := nI 1) d_Th_seekFears_68 rfl ?_
    refine wp_iload d_Th_seekFears_69 rfl ?_
    refine wp_ishl d_Th_seekFears_71 rfl ?_
    refine wp_ior d_Th_seekFears_72 (gu) ?_
    refine wp_bipush (x := nI 15) d_Th_seekFears_73 (by decide) ?_
    refine wp_ic_ne (pc' := 146) d_Th_seekFears_75 (by decide) (fun h75 => ?_) (fun h75 => ?_)
    · refine wp_iinc2 d_Th_seekFears_146 rfl (nI_add _ 1) ?_
      refine wp_goto (pc' := 24) d_Th_seekFears_149 (by decide) ?_
      first
      | (have y75 := h75
         have ze : sp_nt (sp_us k 4 = nI 15 ∧ sp_ssP (sp_fq q k) z t s (sp_n (sp_fq q k))) (nI (sp_to k 4)) rr = rr := sp_nt_f (fun y => y75 y.1)
         rw [ze] at IH
         exact IH S' p _ _ _ _ C hp h70 sh F fS)
      | (have zC3 : CL S3 (sp_fq q k) := C1.fr (fun k j y => zf3.2 k j (fun y' => y (by unfold cW; omega)))
         have ze : sp_nt (sp_us k 4 = nI 15 ∧ sp_ssP (sp_fq q k) z t s (sp_n (sp_fq q k))) (nI (sp_to k 4)) rr = sp_nt (sp_ssP (sp_fq q k) z t s (sp_n (sp_fq q k))) (nI (sp_to k 4)) rr := by rw [show (sp_us k 4 = nI 15 ∧ sp_ssP (sp_fq q k) z t s (sp_n (sp_fq q k))) = sp_ssP (sp_fq q k) z t s (sp_n (sp_fq q k)) from propext ⟨fun y => y.2, fun y => ⟨h75, y⟩⟩]
         rw [ze] at IH
         rw [gt] at zF3
         exact IH S3 _ _ _ _ _ zC3 fq9 (fun o ho => (zf3.2 70 o (by omega)).trans (h701 o ho)) (cSh_k sh (f1.tr (u67 zf3)) ns) zF3 (fS.tr (f1.tr (u67 zf3))))
    · refine wp_aload_n d_Th_seekFears_78 rfl rfl ?_
      refine wp_getR d_Th_seekFears_79 ow_Th_seekFears fl_5_31 (O_67 _) rfl ?_
      refine wp_getR d_Th_seekFears_82 ow_Th_seekFears fl_5_90 (O_1 _) rfl ?_
      refine wp_iconst (x := nI 0) d_Th_seekFears_85 rfl ?_
      refine wp_iload_n d_Th_seekFears_86 rfl rfl ?_
      refine wp_iastore d_Th_seekFears_87 (A_3 _) (by omega) (by decide) ?_
      refine wp_aload_n d_Th_seekFears_88 rfl rfl ?_
      refine wp_getR d_Th_seekFears_89 ow_Th_seekFears fl_5_31 (O_67 _) rfl ?_
      refine wp_getR d_Th_seekFears_92 ow_Th_seekFears fl_5_90 (O_1 _) rfl ?_
      refine wp_iconst (x := nI 1) d_Th_seekFears_95 rfl ?_
      refine wp_iload d_Th_seekFears_96 rfl ?_
      refine wp_iastore d_Th_seekFears_98 (A_3 _) (by omega) (by decide) ?_
      refine wp_aload_n d_Th_seekFears_99 rfl rfl ?_
      refine wp_getR d_Th_seekFears_100 ow_Th_seekFears fl_5_31 (O_67 _) rfl ?_
      refine wp_getR d_Th_seekFears_103 ow_Th_seekFears fl_5_90 (O_1 _) rfl ?_
      refine wp_iconst (x := nI 2) d_Th_seekFears_106 rfl ?_
      refine wp_iload d_Th_seekFears_107 rfl ?_
      refine wp_iastore d_Th_seekFears_109 (A_3 _) (by omega) (by decide) ?_
      refine wp_aload_n d_Th_seekFears_110 rfl rfl ?_
      refine wp_getR d_Th_seekFears_111 ow_Th_seekFears fl_5_31 (O_67 _) rfl ?_
      refine wp_getR d_Th_seekFears_114 ow_Th_seekFears fl_5_90 (O_1 _) rfl ?_
      refine wp_iconst (x := nI 3) d_Th_seekFears_117 rfl ?_
      refine wp_iload d_Th_seekFears_118 rfl ?_
      refine wp_iastore d_Th_seekFears_120 (A_3 _) (by omega) (by decide) ?_
      refine wp_eqS (hS1) ?_
      refine wp_aload_n d_Th_seekFears_121 rfl rfl ?_
      refine wp_aload_n d_Th_seekFears_122 rfl rfl ?_
      refine wp_sipush (x := nI 1000) d_Th_seekFears_123 (by decide) ?_
      refine wp_iload_n d_Th_seekFears_126 rfl rfl ?_
      refine wp_imul d_Th_seekFears_127 (pk_mul _ _) ?_
      refine wp_bipush (x := nI 100) d_Th_seekFears_128 (by decide) ?_
      refine wp_iload d_Th_seekFears_130 rfl ?_
      refine wp_imul d_Th_seekFears_132 (pk_mul _ _) ?_
      refine wp_iadd d_Th_seekFears_133 (nI_add _ _) ?_
      refine wp_bipush (x := nI 10) d_Th_seekFears_134 (by decide) ?_
      refine wp_iload d_Th_seekFears_136 rfl ?_
      refine wp_imul d_Th_seekFears_138 (pk_mul _ _) ?_
      refine wp_iadd d_Th_seekFears_139 (nI_add _ _) ?_
      refine wp_iload d_Th_seekFears_140 rfl ?_
      refine wp_iadd d_Th_seekFears_142 (nI_add _ _) ?_
      refine wp_invV d_Th_seekFears_143 ow_Th_seekFears lk_5_86 (by decide) mi_Th_noteIfSaid rfl rfl (Nat.le_of_ble_eq_true rfl) rfl (wp_isC (O_67 _)) (show h_Th_noteIfSaid ≤ _ from by decide) (c_note C1 hN hs (cSh_k sh f1 ns) _ rr (by omega) F1 (fun S3 zF3 zf3 => ?_))
      refine wp_Kv ?_
      refine wp_iinc2 d_Th_seekFears_146 rfl (nI_add _ 1) ?_
      refine wp_goto (pc' := 24) d_Th_seekFears_149 (by decide) ?_
      first
      | (have y75 := h75
         have ze : sp_nt (sp_us k 4 = nI 15 ∧ sp_ssP (sp_fq q k) z t s (sp_n (sp_fq q k))) (nI (sp_to k 4)) rr = rr := sp_nt_f (fun y => y75 y.1)
         rw [ze] at IH
         exact IH S' p _ _ _ _ C hp h70 sh F fS)
      | (have zC3 : CL S3 (sp_fq q k) := C1.fr (fun k j y => zf3.2 k j (fun y' => y (by unfold cW; omega)))
         have ze : sp_nt (sp_us k 4 = nI 15 ∧ sp_ssP (sp_fq q k) z t s (sp_n (sp_fq q k))) (nI (sp_to k 4)) rr = sp_nt (sp_ssP (sp_fq q k) z t s (sp_n (sp_fq q k))) (nI (sp_to k 4)) rr := by rw [show (sp_us k 4 = nI 15 ∧ sp_ssP (sp_fq q k) z t s (sp_n (sp_fq q k))) = sp_ssP (sp_fq q k) z t s (sp_n (sp_fq q k)) from propext ⟨fun y => y.2, fun y => ⟨h75, y⟩⟩]
         rw [ze] at IH
         rw [gt] at zF3
         exact IH S3 _ _ _ _ _ zC3 fq9 (fun o ho => (zf3.2 70 o (by omega)).trans (h701 o ho)) (cSh_k sh (f1.tr (u67 zf3)) ns) zF3 (fS.tr (f1.tr (u67 zf3))))
theorem c_seekFears (C : CL S q) (hw : sp_wf q) {s : Nat} (hs : s < 4) (sh : cSh S b z t) (K : ∀ S', CL S' q → cFo S' (sp_fe q z t s 256) → fr cZ S S' → Q none S') : cl h_Th_seekFears y_Th_seekFears [.ref 67, .ref (82 + 2 * s)] S Q := by
  have f1 : fr cZ S (wp_cp (wp_u S 67 0 (nI 0)) 3 70 0 0 4) := (fr.rf.up (Or.inr (Or.inl rfl))).cp (fun j => Or.inr (Or.inr rfl))
  have C1 : CL (wp_cp (wp_u S 67 0 (nI 0)) 3 70 0 0 4) q := C.fr (fun k j y => by
    rw [wp_cp2, if_neg (fun y' => y (by unfold cW; omega))]
    exact wp_un (fun y' => y (by unfold cW; omega)))
  have h70 : ∀ o, o < 4 → (wp_cp (wp_u S 67 0 (nI 0)) 3 70 0 0 4).2 70 o = q (9 + o) := fun o ho => by
    rw [wp_cp2, if_pos ⟨rfl, Nat.zero_le _, by omega⟩, show 0 + (o - 0) = o by omega]
    exact (wp_un (by omega)).trans (C.q9 ho)
  have F1 : cFo (wp_cp (wp_u S 67 0 (nI 0)) 3 70 0 0 4) (sp_fe q z t s 0) := by
    rw [sp_fe_0]
    refine ⟨?_, fun y => absurd rfl y⟩
    rw [wp_cp2, if_neg (by omega)]
    exact wp_us
  refine cl_in ml_Th_seekFears rfl rfl ?_
  refine wp_aload_n d_Th_seekFears_0 rfl rfl ?_
  refine wp_iconst (x := nI 0) d_Th_seekFears_1 rfl ?_
  refine wp_put (ty := .int) d_Th_seekFears_2 ow_Th_seekFears fl_5_9 (by decide +kernel) (by decide +kernel) (O_67 _) rfl ⟨rfl, rfl⟩ ?_
  refine wp_aload_n d_Th_seekFears_5 rfl rfl ?_
  refine wp_getR d_Th_seekFears_6 ow_Th_seekFears fl_5_31 (O_67 _) rfl ?_
  refine wp_getR d_Th_seekFears_9 ow_Th_seekFears fl_5_90 (O_1 _) rfl ?_
  refine wp_iconst (x := nI 0) d_Th_seekFears_12 rfl ?_
  refine wp_aload_n d_Th_seekFears_13 rfl rfl ?_
  refine wp_getR d_Th_seekFears_14 ow_Th_seekFears fl_5_28 (O_67 _) rfl ?_
  refine wp_iconst (x := nI 0) d_Th_seekFears_17 rfl ?_
  refine wp_iconst (x := nI 4) d_Th_seekFears_18 rfl ?_
  refine wp_acp d_Th_seekFears_19 ow_Th_seekFears lk_5_93 rfl (A_3 _) (A_70 _) (by omega) (by omega) (by decide) (by decide) ?_
  refine wp_iconst (x := nI 0) d_Th_seekFears_22 rfl ?_
  refine wp_iston2 d_Th_seekFears_23 rfl ?_
  refine c_sf_loop (S := S) (b := b) hw hs (fun S' p l3 l4 l5 l6 C' hp' h70' F' f' => ?_) 256 0 _ q _ _ _ _ (Nat.zero_add _) C1 (fun j _ => rfl) h70 (cSh_k sh f1 (fun k j h1 h2 y => by unfold cZ cTl at y; omega)) F1 f1
  refine wp_aload_n d_Th_seekFears_152 rfl rfl ?_
  refine wp_getR d_Th_seekFears_153 ow_Th_seekFears fl_5_28 (O_67 _) rfl ?_
  refine wp_iconst (x := nI 0) d_Th_seekFears_156 rfl ?_
  refine wp_aload_n d_Th_seekFears_157 rfl rfl ?_
  refine wp_getR d_Th_seekFears_158 ow_Th_seekFears fl_5_31 (O_67 _) rfl ?_
  refine wp_getR d_Th_seekFears_161 ow_Th_seekFears fl_5_90 (O_1 _) rfl ?_
  refine wp_iconst (x := nI 0) d_Th_seekFears_164 rfl ?_
  refine wp_iconst (x := nI 4) d_Th_seekFears_165 rfl ?_
  refine wp_acp d_Th_seekFears_166 ow_Th_seekFears lk_5_93 rfl (A_70 _) (A_3 _) (by omega) (by omega) (by decide) (by decide) ?_
  refine wp_return d_Th_seekFears_169 rt_Th_seekFears ?_
  refine K _ (CL_fears C' hp' h70') ⟨?_, fun y => ?_⟩ (f'.cp (fun j => Or.inl (Or.inl ⟨by decide, by decide⟩)))
  · rw [wp_cp2, if_neg (by omega)]
    exact F'.1
  · rw [wp_cp2, if_neg (by omega)]
    exact F'.2 y
theorem c_fears (C : CL S q) (hw : sp_wf q) (sh : cSh S b z t) (v w : Int32) (K : cQ S (op_fears q b z t v w) Q) : cl h_Fo_fears y_Fo_fears [.ref 0, .int v, .int w] S Q := by
  have hn := hw.n
  unfold op_fears at K
  by_cases h : sp_isW v 3 ∧ sp_isW w 1
  · rw [sp_if_t h] at K
    obtain ⟨s, hs, rfl⟩ := (i_in (by decide)).mp h.1
    rw [nI_clamp (by omega)] at K
    by_cases hb : b s = 0
    · rw [sp_if_t hb] at K
      refine cl_in ml_Fo_fears rfl rfl ?_
      refine wp_iload_n d_Fo_fears_0 rfl rfl ?_
      refine wp_invS d_Fo_fears_1 ow_Fo_fears lk_7_214 (by decide) mi_Fo_isSheet rfl rfl (Nat.le_of_ble_eq_true rfl) rfl (show h_Fo_isSheet ≤ _ from by decide) (c_isSheet _ ?_)
      refine wp_Ki ?_
      refine wp_ifB_eq (pc' := 16) d_Fo_fears_4 (by decide) (fun h4 => absurd h.1 h4) (fun h4 => ?_)
      refine wp_iload_n d_Fo_fears_7 rfl rfl ?_
      refine wp_iconst (x := nI 0) d_Fo_fears_8 rfl ?_
      refine wp_iconst (x := nI 1) d_Fo_fears_9 rfl ?_
      refine wp_invS d_Fo_fears_10 ow_Fo_fears lk_7_66 (by decide) mi_Fo_isWithin rfl rfl (Nat.le_of_ble_eq_true rfl) rfl (show h_Fo_isWithin ≤ _ from by decide) (c_isWithin _ _ _ ?_)
      refine wp_Ki ?_
      refine wp_ifB_ne (pc' := 22) d_Fo_fears_13 (by decide) (fun h13 => ?_) (fun h13 => absurd h.2 h13)
      refine wp_aload_n d_Fo_fears_22 rfl rfl ?_
      refine wp_getR d_Fo_fears_23 ow_Fo_fears fl_7_50 (O_0 _) rfl ?_
      refine wp_iload_n d_Fo_fears_26 rfl rfl ?_
      refine wp_aaload d_Fo_fears_27 rfl (f_U (by omega)) (by decide) ?_
      refine wp_getI d_Fo_fears_28 ow_Fo_fears fl_7_217 (O_U _ (by omega)) rfl ((sh s (by omega)).1) ?_
      refine wp_if_ne (pc' := 40) d_Fo_fears_31 (by decide) (fun h31 => absurd hb h31) (fun h31 => ?_)
      refine wp_aload_n d_Fo_fears_34 rfl rfl ?_
      refine wp_iconst (x := nI 2) d_Fo_fears_35 rfl ?_
      refine wp_invV d_Fo_fears_36 ow_Fo_fears lk_7_70 (by decide) mi_Fo_error rfl rfl (Nat.le_of_ble_eq_true rfl) rfl (wp_isC (O_0 _)) (show h_Fo_error ≤ _ from by decide) (c_error 2 (by decide) (by decide) ?_)
      refine wp_Ki ?_
      refine wp_reti d_Fo_fears_39 rt_Fo_fears ?_
      exact cQ_er (e := 2) K (by decide) C fr.rf
    · rw [sp_if_f hb] at K
      have hle := sp_fe_le q z t s 256
      refine cl_in ml_Fo_fears rfl rfl ?_
      refine wp_iload_n d_Fo_fears_0 rfl rfl ?_
      refine wp_invS d_Fo_fears_1 ow_Fo_fears lk_7_214 (by decide) mi_Fo_isSheet rfl rfl (Nat.le_of_ble_eq_true rfl) rfl (show h_Fo_isSheet ≤ _ from by decide) (c_isSheet _ ?_)
      refine wp_Ki ?_
      refine wp_ifB_eq (pc' := 16) d_Fo_fears_4 (by decide) (fun h4 => absurd h.1 h4) (fun h4 => ?_)
      refine wp_iload_n d_Fo_fears_7 rfl rfl ?_
      refine wp_iconst (x := nI 0) d_Fo_fears_8 rfl ?_
      refine wp_iconst (x := nI 1) d_Fo_fears_9 rfl ?_
      refine wp_invS d_Fo_fears_10 ow_Fo_fears lk_7_66 (by decide) mi_Fo_isWithin rfl rfl (Nat.le_of_ble_eq_true rfl) rfl (show h_Fo_isWithin ≤ _ from by decide) (c_isWithin _ _ _ ?_)
      refine wp_Ki ?_
      refine wp_ifB_ne (pc' := 22) d_Fo_fears_13 (by decide) (fun h13 => ?_) (fun h13 => absurd h.2 h13)
      refine wp_aload_n d_Fo_fears_22 rfl rfl ?_
      refine wp_getR d_Fo_fears_23 ow_Fo_fears fl_7_50 (O_0 _) rfl ?_
      refine wp_iload_n d_Fo_fears_26 rfl rfl ?_
      refine wp_aaload d_Fo_fears_27 rfl (f_U (by omega)) (by decide) ?_
      refine wp_getI d_Fo_fears_28 ow_Fo_fears fl_7_217 (O_U _ (by omega)) rfl ((sh s (by omega)).1) ?_
      refine wp_if_ne (pc' := 40) d_Fo_fears_31 (by decide) (fun h31 => ?_) (fun h31 => absurd h31 hb)
      refine wp_aload_n d_Fo_fears_40 rfl rfl ?_
      refine wp_getR d_Fo_fears_41 ow_Fo_fears fl_7_37 (O_0 _) rfl ?_
      refine wp_aload_n d_Fo_fears_44 rfl rfl ?_
      refine wp_getR d_Fo_fears_45 ow_Fo_fears fl_7_50 (O_0 _) rfl ?_
      refine wp_iload_n d_Fo_fears_48 rfl rfl ?_
      refine wp_aaload d_Fo_fears_49 rfl (f_U (by omega)) (by decide) ?_
      refine wp_invV d_Fo_fears_50 ow_Fo_fears lk_7_230 (by decide) mi_Th_seekFears rfl rfl (Nat.le_of_ble_eq_true rfl) rfl (wp_isC (O_67 _)) (show h_Th_seekFears ≤ _ from by decide) (c_seekFears C hw (by omega) sh (fun S2 zC2 zF2 zf2 => ?_))
      refine wp_Kv ?_
      refine wp_aload_n d_Fo_fears_53 rfl rfl ?_
      refine wp_getR d_Fo_fears_54 ow_Fo_fears fl_7_37 (O_0 _) rfl ?_
      refine wp_getI d_Fo_fears_57 ow_Fo_fears fl_7_224 (O_67 _) rfl (zF2.1) ?_
      refine wp_ifN_ne (pc' := 69) d_Fo_fears_60 (by decide) (by omega) (fun h60 => ?_) (fun h60 => ?_)
      · refine wp_iload_n d_Fo_fears_69 rfl rfl ?_
        refine wp_if_ne (pc' := 83) d_Fo_fears_70 (by decide) (fun h70 => ?_) (fun h70 => ?_)
        · refine wp_aload_n d_Fo_fears_83 rfl rfl ?_
          refine wp_getR d_Fo_fears_84 ow_Fo_fears fl_7_37 (O_0 _) rfl ?_
          refine wp_getI d_Fo_fears_87 ow_Fo_fears fl_7_224 (O_67 _) rfl (zF2.1) ?_
          refine wp_reti d_Fo_fears_90 rt_Fo_fears ?_
          rw [sp_if_f h60, sp_if_f h70] at K
          exact cQ_ok K zC2 (fr_YZ zf2)
        · refine wp_aload_n d_Fo_fears_73 rfl rfl ?_
          refine wp_getR d_Fo_fears_74 ow_Fo_fears fl_7_37 (O_0 _) rfl ?_
          refine wp_getI d_Fo_fears_77 ow_Fo_fears fl_7_227 (O_67 _) rfl (zF2.2 h60) ?_
          refine wp_goto (pc' := 90) d_Fo_fears_80 (by decide) ?_
          refine wp_reti d_Fo_fears_90 rt_Fo_fears ?_
          rw [sp_if_f h60, sp_if_t h70] at K
          exact cQ_ok K zC2 (fr_YZ zf2)
      · refine wp_aload_n d_Fo_fears_63 rfl rfl ?_
        refine wp_iconst (x := nI 2) d_Fo_fears_64 rfl ?_
        refine wp_invV d_Fo_fears_65 ow_Fo_fears lk_7_70 (by decide) mi_Fo_error rfl rfl (Nat.le_of_ble_eq_true rfl) rfl (wp_isC (O_0 _)) (show h_Fo_error ≤ _ from by decide) (c_error 2 (by decide) (by decide) ?_)
        refine wp_Ki ?_
        refine wp_reti d_Fo_fears_68 rt_Fo_fears ?_
        rw [sp_if_t h60] at K
        exact cQ_er (e := 2) K (by decide) zC2 (fr_YZ zf2)
  · rw [sp_if_f h] at K
    refine cl_in ml_Fo_fears rfl rfl ?_
    refine wp_iload_n d_Fo_fears_0 rfl rfl ?_
    refine wp_invS d_Fo_fears_1 ow_Fo_fears lk_7_214 (by decide) mi_Fo_isSheet rfl rfl (Nat.le_of_ble_eq_true rfl) rfl (show h_Fo_isSheet ≤ _ from by decide) (c_isSheet _ ?_)
    refine wp_Ki ?_
    refine wp_ifB_eq (pc' := 16) d_Fo_fears_4 (by decide) (fun h4 => ?_) (fun h4 => ?_)
    · refine wp_aload_n d_Fo_fears_16 rfl rfl ?_
      refine wp_iconst (x := nI 1) d_Fo_fears_17 rfl ?_
      refine wp_invV d_Fo_fears_18 ow_Fo_fears lk_7_70 (by decide) mi_Fo_error rfl rfl (Nat.le_of_ble_eq_true rfl) rfl (wp_isC (O_0 _)) (show h_Fo_error ≤ _ from by decide) (c_error 1 (by decide) (by decide) ?_)
      refine wp_Ki ?_
      refine wp_reti d_Fo_fears_21 rt_Fo_fears ?_
      exact cQ_er (e := 1) K (by decide) C fr.rf
    · refine wp_iload_n d_Fo_fears_7 rfl rfl ?_
      refine wp_iconst (x := nI 0) d_Fo_fears_8 rfl ?_
      refine wp_iconst (x := nI 1) d_Fo_fears_9 rfl ?_
      refine wp_invS d_Fo_fears_10 ow_Fo_fears lk_7_66 (by decide) mi_Fo_isWithin rfl rfl (Nat.le_of_ble_eq_true rfl) rfl (show h_Fo_isWithin ≤ _ from by decide) (c_isWithin _ _ _ ?_)
      refine wp_Ki ?_
      refine wp_ifB_ne (pc' := 22) d_Fo_fears_13 (by decide) (fun h13 => absurd ⟨h4, h13⟩ h) (fun h13 => ?_)
      refine wp_aload_n d_Fo_fears_16 rfl rfl ?_
      refine wp_iconst (x := nI 1) d_Fo_fears_17 rfl ?_
      refine wp_invV d_Fo_fears_18 ow_Fo_fears lk_7_70 (by decide) mi_Fo_error rfl rfl (Nat.le_of_ble_eq_true rfl) rfl (wp_isC (O_0 _)) (show h_Fo_error ≤ _ from by decide) (c_error 1 (by decide) (by decide) ?_)
      refine wp_Ki ?_
      refine wp_reti d_Fo_fears_21 rt_Fo_fears ?_
      exact cQ_er (e := 1) K (by decide) C fr.rf
theorem c_od_e (o w : Int32) (r : Nat × Nat) (l7 : Option Value) (K1 : w = 0 → Q (some (.long (nL r.1))) S) (K2 : ¬ w = 0 → Q (some (.long (nL r.2))) S) : wp (h_Th_oddsOf - 1) y_Th_oddsOf 115 [some (.ref 67), some (.int o), some (.int w), some (.long (nL r.1)), none, some (.long (nL r.2)), none, l7] [] S Q := by
  refine wp_iload_n d_Th_oddsOf_115 rfl rfl ?_
  refine wp_if_ne (pc' := 123) d_Th_oddsOf_116 (by decide) (fun h116 => ?_) (fun h116 => ?_)
  · refine wp_lload d_Th_oddsOf_123 rfl ?_
    refine wp_lreturn d_Th_oddsOf_125 rt_Th_oddsOf ?_
    exact K2 h116
  · refine wp_lload_n d_Th_oddsOf_119 rfl rfl ?_
    refine wp_goto (pc' := 125) d_Th_oddsOf_120 (by decide) ?_
    refine wp_lreturn d_Th_oddsOf_125 rt_Th_oddsOf ?_
    exact K1 h116
theorem c_hv (o w : Int32) (r0 : Nat × Nat) (K : Q (some (.long (sp_if (w = 0) (nL r0.1) (nL r0.2)))) S) : ∀ f i (r : Nat × Nat), i + f = 40 → sp_hv f r = r0 → r.1 < 2 ^ 63 → r.2 < 2 ^ 63 → wp (h_Th_oddsOf - 1) y_Th_oddsOf 71 [some (.ref 67), some (.int o), some (.int w), some (.long (nL r.1)), none, some (.long (nL r.2)), none, some (.int (nI i))] [] S Q := by
  have fin : ∀ (r : Nat × Nat) l7, r = r0 → wp (h_Th_oddsOf - 1) y_Th_oddsOf 115 [some (.ref 67), some (.int o), some (.int w), some (.long (nL r.1)), none, some (.long (nL r.2)), none, l7] [] S Q := by
    intro r l7 e
    subst e
    by_cases hw : w = 0
    · rw [sp_if_t hw] at K
      exact c_od_e o w r l7 (fun _ => K) (fun y => absurd hw y)
    · rw [sp_if_f hw] at K
      exact c_od_e o w r l7 (fun y => absurd y hw) (fun _ => K)
  intro f
  induction f with
  | zero =>
    intro i r hi e h1 h2
    rw [sp_hv_0] at e
    obtain rfl : i = 40 := by omega
    refine wp_iload d_Th_oddsOf_71 rfl ?_
    refine wp_bipush (x := nI 40) d_Th_oddsOf_73 (by decide) ?_
    refine wp_icN_ge (pc' := 115) d_Th_oddsOf_75 (by decide) (by omega) (by omega) (fun _ => ?_) (fun q => absurd q (by decide))
    exact fin r _ e
  | succ f ih =>
    intro i r hi e h1 h2
    rw [sp_hv_s] at e
    have z1 : lg_cmp (nL r.2) 1 ≤ 0 → r.2 ≤ 1 := fun y => (nL_le (a := r.2) (b := 1) h2 (by omega)).mp ((lg_cmp_le _ _).mp y)
    have z2 : ¬ lg_cmp (nL r.2) 1 ≤ 0 → 1 < r.2 := fun y => Classical.byContradiction (fun y' => y ((lg_cmp_le _ _).mpr ((nL_le (a := r.2) (b := 1) h2 (by omega)).mpr (by omega))))
    have z3 : lg_cmp (nL (r.1 % 2)) 0 = 0 → r.1 % 2 = 0 := fun y => (nL_eq (a := r.1 % 2) (b := 0) (by omega) (by omega)).mp ((lg_cmp_eq _ _).mp y)
    have z4 : ¬ lg_cmp (nL (r.1 % 2)) 0 = 0 → ¬ r.1 % 2 = 0 := fun y y' => y ((lg_cmp_eq _ _).mpr ((nL_eq (a := r.1 % 2) (b := 0) (by omega) (by omega)).mpr y'))
    refine wp_iload d_Th_oddsOf_71 rfl ?_
    refine wp_bipush (x := nI 40) d_Th_oddsOf_73 (by decide) ?_
    refine wp_icN_ge (pc' := 115) d_Th_oddsOf_75 (by decide) (by omega) (by omega) (fun h75 => absurd h75 (by omega)) (fun h75 => ?_)
    refine wp_lload d_Th_oddsOf_78 rfl ?_
    refine wp_lconst (x := 1) d_Th_oddsOf_80 rfl ?_
    refine wp_lcmp d_Th_oddsOf_81 (rfl) ?_
    refine wp_if_le (pc' := 115) d_Th_oddsOf_82 (by decide) (fun h82 => ?_) (fun h82 => ?_)
    · first
      | (have z5 := z1 h82
         rw [sp_if_f (by omega)] at e
         exact fin r _ e)
      | (have z5 := z4 h92
         rw [sp_if_f (by omega)] at e
         exact fin r _ e)
    · refine wp_lload_n d_Th_oddsOf_85 rfl rfl ?_
      refine wp_ldc2_w (v := 2) d_Th_oddsOf_86 ow_Th_oddsOf (by decide +kernel) ?_
      refine wp_lrem d_Th_oddsOf_89 (by decide) (nL_rem2 h1) ?_
      refine wp_lconst (x := 0) d_Th_oddsOf_90 rfl ?_
      refine wp_lcmp d_Th_oddsOf_91 (rfl) ?_
      refine wp_if_ne (pc' := 115) d_Th_oddsOf_92 (by decide) (fun h92 => ?_) (fun h92 => ?_)
      · first
        | (have z5 := z1 h82
           rw [sp_if_f (by omega)] at e
           exact fin r _ e)
        | (have z5 := z4 h92
           rw [sp_if_f (by omega)] at e
           exact fin r _ e)
      · refine wp_lload_n d_Th_oddsOf_95 rfl rfl ?_
        refine wp_ldc2_w (v := 2) d_Th_oddsOf_96 ow_Th_oddsOf (by decide +kernel) ?_
        refine wp_ldiv d_Th_oddsOf_99 (by decide) (nL_div2 h1) ?_
        refine wp_lston3 d_Th_oddsOf_100 rfl ?_
        refine wp_lload d_Th_oddsOf_101 rfl ?_
        refine wp_ldc2_w (v := 2) d_Th_oddsOf_103 ow_Th_oddsOf (by decide +kernel) ?_
        refine wp_ldiv d_Th_oddsOf_106 (by decide) (nL_div2 h2) ?_
        refine wp_lsto5 d_Th_oddsOf_107 rfl ?_
        refine wp_iinc7 d_Th_oddsOf_109 rfl (nI_add _ 1) ?_
        refine wp_goto (pc' := 71) d_Th_oddsOf_112 (by decide) ?_
        have z5 := z2 h82
        have z6 := z3 h92
        rw [sp_if_t ⟨z5, z6⟩] at e
        exact ih (i + 1) (r.1 / 2, r.2 / 2) (by omega) e (by show r.1 / 2 < _; omega) (by show r.2 / 2 < _; omega)
theorem c_oa (hw : sp_wf q) (o w : Int32) (K : ∀ S' l7, CL S' q → fr cS S S' → wp (h_Th_oddsOf - 1) y_Th_oddsOf 68 [some (.ref 67), some (.int o), some (.int w), some (.long (nL (sp_oa q o (sp_n q)).1)), none, some (.long (nL (sp_oa q o (sp_n q)).2)), none, l7] [] S' Q) : ∀ m k (S' : wp_S), k + m = sp_n q → CL S' q → fr cS S S' → wp (h_Th_oddsOf - 1) y_Th_oddsOf 8 [some (.ref 67), some (.int o), some (.int w), some (.long (nL (sp_oa q o k).1)), none, some (.long (nL (sp_oa q o k).2)), none, some (.int (nI k))] [] S' Q := by
  have hn := hw.n
  intro m
  induction m with
  | zero =>
    intro k S' hk C fS
    obtain rfl : k = sp_n q := by omega
    refine wp_iload d_Th_oddsOf_8 rfl ?_
    refine wp_aload_n d_Th_oddsOf_10 rfl rfl ?_
    refine wp_getR d_Th_oddsOf_11 ow_Th_oddsOf fl_5_31 (O_67 _) rfl ?_
    refine wp_getI d_Th_oddsOf_14 ow_Th_oddsOf fl_5_54 (O_1 _) rfl (C.n.trans hn.2) ?_
    refine wp_icN_ge (pc' := 68) d_Th_oddsOf_17 (by decide) (by omega) (by omega) (fun h17 => ?_) (fun h17 => absurd h17 (by omega))
    exact K S' _ C fS
  | succ m ih =>
    intro k S' hk C fS
    have e := sp_oa_s q o k
    have IH := fun S' => ih (k + 1) S' (by omega)
    clear ih
    rw [e] at IH
    obtain ⟨g1, g2⟩ := (hw.f (show k < sp_n q by omega)).m
    have hmul1 := nL_mul (sp_oa q o k).1 (16 - sp_m q k)
    have hmul2 := nL_mul (sp_oa q o k).2 16
    refine wp_iload d_Th_oddsOf_8 rfl ?_
    refine wp_aload_n d_Th_oddsOf_10 rfl rfl ?_
    refine wp_getR d_Th_oddsOf_11 ow_Th_oddsOf fl_5_31 (O_67 _) rfl ?_
    refine wp_getI d_Th_oddsOf_14 ow_Th_oddsOf fl_5_54 (O_1 _) rfl (C.n.trans hn.2) ?_
    refine wp_icN_ge (pc' := 68) d_Th_oddsOf_17 (by decide) (by omega) (by omega) (fun h17 => absurd h17 (by omega)) (fun h17 => ?_)
    refine wp_aload_n d_Th_oddsOf_20 rfl rfl ?_
    refine wp_getR d_Th_oddsOf_21 ow_Th_oddsOf fl_5_31 (O_67 _) rfl ?_
    refine wp_iload d_Th_oddsOf_24 rfl ?_
    refine wp_iconst (x := -1) d_Th_oddsOf_26 rfl ?_
    refine wp_invV d_Th_oddsOf_27 ow_Th_oddsOf lk_5_47 (by decide) mi_La_ownerOf rfl rfl (Nat.le_of_ble_eq_true rfl) rfl (wp_isC (O_1 _)) (show h_La_ownerOf ≤ _ from by decide) (c_ownerOf C hw (-1) k (by omega) (fun S2 zf2 => ?_))
    refine wp_Ki ?_
    refine wp_iload_n d_Th_oddsOf_30 rfl rfl ?_
    refine wp_ic_ne (pc' := 62) d_Th_oddsOf_31 (by decide) (fun h31 => ?_) (fun h31 => ?_)
    · refine wp_iinc7 d_Th_oddsOf_62 rfl (nI_add _ 1) ?_
      refine wp_goto (pc' := 8) d_Th_oddsOf_65 (by decide) ?_
      first
      | (rw [sp_if_t h31] at IH
         exact IH S2 (CL_st C zf2) (fS.tr zf2))
      | (rw [sp_if_f h31] at IH
         exact IH S2 (CL_st C zf2) (fS.tr zf2))
    · refine wp_lload_n d_Th_oddsOf_34 rfl rfl ?_
      refine wp_bipush (x := nI 16) d_Th_oddsOf_35 (by decide) ?_
      refine wp_aload_n d_Th_oddsOf_37 rfl rfl ?_
      refine wp_getR d_Th_oddsOf_38 ow_Th_oddsOf fl_5_31 (O_67 _) rfl ?_
      refine wp_getR d_Th_oddsOf_41 ow_Th_oddsOf fl_5_38 (O_1 _) rfl ?_
      refine wp_iload d_Th_oddsOf_44 rfl ?_
      refine wp_aaload d_Th_oddsOf_46 rfl (f_F (by omega)) (by decide) ?_
      refine wp_getI d_Th_oddsOf_47 ow_Th_oddsOf fl_5_103 (O_F _ (by omega)) rfl (((CL_st C zf2).f (by omega) (w := 1) (by decide)).trans g2) ?_
      refine wp_isub d_Th_oddsOf_50 (pk_sub (show sp_m q k ≤ 16 by omega)) ?_
      refine wp_i2l d_Th_oddsOf_51 (nL_of (by omega)) ?_
      refine wp_lmul d_Th_oddsOf_52 (hmul1) ?_
      refine wp_lston3 d_Th_oddsOf_53 rfl ?_
      refine wp_lload d_Th_oddsOf_54 rfl ?_
      refine wp_ldc2_w (v := 16) d_Th_oddsOf_56 ow_Th_oddsOf (by decide +kernel) ?_
      refine wp_lmul d_Th_oddsOf_59 (hmul2) ?_
      refine wp_lsto5 d_Th_oddsOf_60 rfl ?_
      refine wp_iinc7 d_Th_oddsOf_62 rfl (nI_add _ 1) ?_
      refine wp_goto (pc' := 8) d_Th_oddsOf_65 (by decide) ?_
      first
      | (rw [sp_if_t h31] at IH
         exact IH S2 (CL_st C zf2) (fS.tr zf2))
      | (rw [sp_if_f h31] at IH
         exact IH S2 (CL_st C zf2) (fS.tr zf2))
theorem c_odds (C : CL S q) (hw : sp_wf q) (o w : Int32) (K1 : sp_isW o 3 ∧ sp_isW w 1 → ∀ S', CL S' q → fr cS S S' → Q (some (.long (sp_od q o w))) S') (K0 : ¬ (sp_isW o 3 ∧ sp_isW w 1) → Q (some (.long (-1000000001))) (wp_u S 90 1 (S.2 90 1 + nI 1))) : cl h_Fo_odds y_Fo_odds [.ref 0, .int o, .int w] S Q := by
  have hn := hw.n
  by_cases h : sp_isW o 3 ∧ sp_isW w 1
  · have K1 := K1 h
    clear K0
    have e0 := sp_oa_0 q o
    have hle := sp_oa_le q o (sp_n q)
    have hp : 16 ^ sp_n q ≤ 16 ^ 10 := Nat.pow_le_pow_right (by decide) hn.1
    have st : cl h_Th_oddsOf y_Th_oddsOf [.ref 67, .int o, .int w] S (fun r S' => CL S' q ∧ fr cS S S' ∧ r = some (.long (sp_od q o w))) := by
      have st := c_oa (S := S) (Q := fun r S' => CL S' q ∧ fr cS S S' ∧ r = some (.long (sp_od q o w))) hw o w (fun S' l7 C' f' => by
        refine wp_iconst (x := nI 0) d_Th_oddsOf_68 rfl ?_
        refine wp_isto7 d_Th_oddsOf_69 rfl ?_
        exact c_hv o w _ ⟨C', f', rfl⟩ 40 0 (sp_oa q o (sp_n q)) rfl rfl (by omega) (by omega)
        ) (sp_n q) 0 S (Nat.zero_add _) C fr.rf
      rw [e0] at st
      refine cl_in ml_Th_oddsOf rfl rfl ?_
      refine wp_lconst (x := 1) d_Th_oddsOf_0 rfl ?_
      refine wp_lston3 d_Th_oddsOf_1 rfl ?_
      refine wp_lconst (x := 1) d_Th_oddsOf_2 rfl ?_
      refine wp_lsto5 d_Th_oddsOf_3 rfl ?_
      refine wp_iconst (x := nI 0) d_Th_oddsOf_5 rfl ?_
      refine wp_isto7 d_Th_oddsOf_6 rfl ?_
      exact st
    refine cl_in ml_Fo_odds rfl rfl ?_
    refine wp_iload_n d_Fo_odds_0 rfl rfl ?_
    refine wp_invS d_Fo_odds_1 ow_Fo_odds lk_7_125 (by decide) mi_Fo_isOwner rfl rfl (Nat.le_of_ble_eq_true rfl) rfl (show h_Fo_isOwner ≤ _ from by decide) (c_isOwner _ ?_)
    refine wp_Ki ?_
    refine wp_ifB_eq (pc' := 16) d_Fo_odds_4 (by decide) (fun h4 => absurd h.1 h4) (fun h4 => ?_)
    refine wp_iload_n d_Fo_odds_7 rfl rfl ?_
    refine wp_iconst (x := nI 0) d_Fo_odds_8 rfl ?_
    refine wp_iconst (x := nI 1) d_Fo_odds_9 rfl ?_
    refine wp_invS d_Fo_odds_10 ow_Fo_odds lk_7_66 (by decide) mi_Fo_isWithin rfl rfl (Nat.le_of_ble_eq_true rfl) rfl (show h_Fo_isWithin ≤ _ from by decide) (c_isWithin _ _ _ ?_)
    refine wp_Ki ?_
    refine wp_ifB_ne (pc' := 23) d_Fo_odds_13 (by decide) (fun h13 => ?_) (fun h13 => absurd h.2 h13)
    refine wp_aload_n d_Fo_odds_23 rfl rfl ?_
    refine wp_getR d_Fo_odds_24 ow_Fo_odds fl_7_37 (O_0 _) rfl ?_
    refine wp_iload_n d_Fo_odds_27 rfl rfl ?_
    refine wp_iload_n d_Fo_odds_28 rfl rfl ?_
    refine wp_invV d_Fo_odds_29 ow_Fo_odds lk_7_233 (by decide) mi_Th_oddsOf rfl rfl (Nat.le_of_ble_eq_true rfl) rfl (wp_isC (O_67 _)) (show h_Th_oddsOf ≤ _ from by decide) (cl_imp st (fun r S2 y => ?_))
    obtain ⟨zC2, zf2, rfl⟩ := y
    refine wp_Kl ?_
    refine wp_lreturn d_Fo_odds_32 rt_Fo_odds ?_
    exact K1 S2 zC2 zf2
  · have K0 := K0 h
    refine cl_in ml_Fo_odds rfl rfl ?_
    refine wp_iload_n d_Fo_odds_0 rfl rfl ?_
    refine wp_invS d_Fo_odds_1 ow_Fo_odds lk_7_125 (by decide) mi_Fo_isOwner rfl rfl (Nat.le_of_ble_eq_true rfl) rfl (show h_Fo_isOwner ≤ _ from by decide) (c_isOwner _ ?_)
    refine wp_Ki ?_
    refine wp_ifB_eq (pc' := 16) d_Fo_odds_4 (by decide) (fun h4 => ?_) (fun h4 => ?_)
    · refine wp_aload_n d_Fo_odds_16 rfl rfl ?_
      refine wp_iconst (x := nI 1) d_Fo_odds_17 rfl ?_
      refine wp_invV d_Fo_odds_18 ow_Fo_odds lk_7_70 (by decide) mi_Fo_error rfl rfl (Nat.le_of_ble_eq_true rfl) rfl (wp_isC (O_0 _)) (show h_Fo_error ≤ _ from by decide) (c_error 1 (by decide) (by decide) ?_)
      refine wp_Ki ?_
      refine wp_i2l d_Fo_odds_21 ((by decide : (-1000000000 - nI 1 : Int32).toInt64 = (-1000000001 : Int64))) ?_
      refine wp_lreturn d_Fo_odds_22 rt_Fo_odds ?_
      exact K0
    · refine wp_iload_n d_Fo_odds_7 rfl rfl ?_
      refine wp_iconst (x := nI 0) d_Fo_odds_8 rfl ?_
      refine wp_iconst (x := nI 1) d_Fo_odds_9 rfl ?_
      refine wp_invS d_Fo_odds_10 ow_Fo_odds lk_7_66 (by decide) mi_Fo_isWithin rfl rfl (Nat.le_of_ble_eq_true rfl) rfl (show h_Fo_isWithin ≤ _ from by decide) (c_isWithin _ _ _ ?_)
      refine wp_Ki ?_
      refine wp_ifB_ne (pc' := 23) d_Fo_odds_13 (by decide) (fun h13 => absurd ⟨h4, h13⟩ h) (fun h13 => ?_)
      refine wp_aload_n d_Fo_odds_16 rfl rfl ?_
      refine wp_iconst (x := nI 1) d_Fo_odds_17 rfl ?_
      refine wp_invV d_Fo_odds_18 ow_Fo_odds lk_7_70 (by decide) mi_Fo_error rfl rfl (Nat.le_of_ble_eq_true rfl) rfl (wp_isC (O_0 _)) (show h_Fo_error ≤ _ from by decide) (c_error 1 (by decide) (by decide) ?_)
      refine wp_Ki ?_
      refine wp_i2l d_Fo_odds_21 ((by decide : (-1000000000 - nI 1 : Int32).toInt64 = (-1000000001 : Int64))) ?_
      refine wp_lreturn d_Fo_odds_22 rt_Fo_odds ?_
      exact K0
end CN
