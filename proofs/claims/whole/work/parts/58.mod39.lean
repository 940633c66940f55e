/-! the reference: fears by which all say so -/
def sp_fv (k o : Nat) : Nat := k / 4 ^ (3 - o) % 4
theorem i_fv0 : ∀ k : Fin 256, ∀ o : Fin 4, (nI k.val >>> ((nI 6 - nI (2 * o.val)) &&& 31)) &&& nI 3 = nI (sp_fv k.val o.val) := by decide +kernel
theorem i_fv {k o : Nat} (hk : k < 256) (ho : o < 4) : (nI k >>> ((nI 6 - nI (2 * o)) &&& 31)) &&& nI 3 = nI (sp_fv k o) := i_fv0 ⟨k, hk⟩ ⟨o, ho⟩
theorem sp_fv_lt (k o : Nat) : sp_fv k o < 4 := Nat.mod_lt _ (by decide)
def sp_us (k : Nat) : Nat → Int32
  | 0 => nI 0
  | o + 1 => sp_us k o ||| (nI 1 <<< (nI (sp_fv k o) &&& 31))
theorem sp_us_s (k o : Nat) : sp_us k (o + 1) = sp_us k o ||| (nI 1 <<< (nI (sp_fv k o) &&& 31)) := by rw [sp_us]
def sp_to (k : Nat) : Nat → Nat
  | 0 => 0
  | o + 1 => 10 * sp_to k o + sp_fv k o
theorem sp_to_s (k o : Nat) : sp_to k (o + 1) = 10 * sp_to k o + sp_fv k o := by rw [sp_to]
def sp_fq (q : sp_R) (k : Nat) : sp_R := fun j => if 9 ≤ j ∧ j < 13 then nI (sp_fv k (j - 9)) else q j
theorem sp_fq_e (q : sp_R) (k : Nat) : sp_fq q k = sp_up (sp_up (sp_up (sp_up q 9 (nI (sp_fv k 0))) 10 (nI (sp_fv k 1))) 11 (nI (sp_fv k 2))) 12 (nI (sp_fv k 3)) := by
  funext j
  unfold sp_fq
  by_cases h : 9 ≤ j ∧ j < 13
  · rw [if_pos h]
    rcases (show j = 9 ∨ j = 10 ∨ j = 11 ∨ j = 12 by omega) with rfl | rfl | rfl | rfl <;> rfl
  · rw [if_neg h, sp_up_ne _ _ (by omega), sp_up_ne _ _ (by omega), sp_up_ne _ _ (by omega), sp_up_ne _ _ (by omega)]
theorem sp_fq_n (q : sp_R) (k : Nat) : sp_n (sp_fq q k) = sp_n q := by
  unfold sp_n sp_fq
  rw [if_neg (by omega)]
theorem sp_fq_1 {q : sp_R} (h : sp_wf q) (j k o : Nat) (ho : o < 4) : sp_wf (sp_up q (9 + o) (nI (sp_fv k j))) :=
  sp_wf_h h (by omega) (fun z => by omega) (fun z => by omega) (fun z => by omega) (fun z => by omega) (fun _ => ⟨_, by have := sp_fv_lt k j; omega, rfl⟩)
theorem sp_fq_wf {q : sp_R} (h : sp_wf q) (k : Nat) : sp_wf (sp_fq q k) := by
  rw [sp_fq_e]
  exact sp_fq_1 (sp_fq_1 (sp_fq_1 (sp_fq_1 h 0 k 0 (by decide)) 1 k 1 (by decide)) 2 k 2 (by decide)) 3 k 3 (by decide)
noncomputable def sp_fe (q z t : sp_R) (s : Nat) : Nat → Nat × Int32
  | 0 => (0, -1)
  | k + 1 => sp_nt (sp_us k 4 = nI 15 ∧ sp_ssP (sp_fq q k) z t s (sp_n (sp_fq q k))) (nI (sp_to k 4)) (sp_fe q z t s k)
theorem sp_fe_0 (q z t : sp_R) (s : Nat) : sp_fe q z t s 0 = (0, -1) := by rw [sp_fe]
theorem sp_fe_s (q z t : sp_R) (s k : Nat) : sp_fe q z t s (k + 1) = sp_nt (sp_us k 4 = nI 15 ∧ sp_ssP (sp_fq q k) z t s (sp_n (sp_fq q k))) (nI (sp_to k 4)) (sp_fe q z t s k) := by rw [sp_fe]
theorem sp_fe_le (q z t : sp_R) (s : Nat) : ∀ k, (sp_fe q z t s k).1 ≤ k
  | 0 => by rw [sp_fe_0]; exact Nat.le_refl _
  | k + 1 => by
    rw [sp_fe_s]
    exact Nat.le_trans sp_nt_le (Nat.succ_le_succ (sp_fe_le q z t s k))
section OF2
variable {S : wp_S} {q : sp_R} {mu : Int32} {Q : Option Value → wp_S → Prop}
theorem m_fe_in (w le : Int32) (s c k : Nat) (hk : k < 256) (K : ∀ S' l9, mC S' (sp_fq q k) (-1) → mT S' q → fr mY S S' → wp (h_Mo_fears - 1) y_Mo_fears 133 [some (.ref 91), some (.int (nI s)), some (.int w), some (.int le), some (.int (nI c)), some (.int (nI k)), some (.int (sp_us k 4)), some (.int (nI (sp_to k 4))), some (.int (nI 4)), l9] [] S' Q) : ∀ m o (S' : wp_S) (p : sp_R) l9, o + m = 4 → mC S' p (-1) → (∀ j, ¬ (9 ≤ j ∧ j < 13) → p j = q j) → (∀ j, j < o → p (9 + j) = nI (sp_fv k j)) → mT S' q → fr mY S S' → wp (h_Mo_fears - 1) y_Mo_fears 76 [some (.ref 91), some (.int (nI s)), some (.int w), some (.int le), some (.int (nI c)), some (.int (nI k)), some (.int (sp_us k o)), some (.int (nI (sp_to k o))), some (.int (nI o)), l9] [] S' Q := by
  intro m
  induction m with
  | zero =>
    intro o S' p l9 ho C h1 h2 T fS
    obtain rfl : o = 4 := by omega
    have e : p = sp_fq q k := by
      funext j
      unfold sp_fq
      by_cases h : 9 ≤ j ∧ j < 13
      · rw [if_pos h, ← h2 (j - 9) (by omega), show 9 + (j - 9) = j by omega]
      · rw [if_neg h, h1 j h]
    subst e
    refine wp_iload d_Mo_fears_76 rfl ?_
    refine wp_iconst (x := nI 4) d_Mo_fears_78 rfl ?_
    refine wp_icN_ge (pc' := 133) d_Mo_fears_79 (by decide) (by omega) (by omega) (fun _ => ?_) (fun q => absurd q (by decide))
    exact K S' l9 C T fS
  | succ m ih =>
    intro o S' p l9 ho C h1 h2 T fS
    have e1 := sp_us_s k o
    have e2 := sp_to_s k o
    have IH := fun S' p l9 => ih (o + 1) S' p l9 (by omega)
    rw [e1, e2] at IH
    have g := i_fv hk (show o < 4 by omega)
    refine wp_iload d_Mo_fears_76 rfl ?_
    refine wp_iconst (x := nI 4) d_Mo_fears_78 rfl ?_
    refine wp_icN_ge (pc' := 133) d_Mo_fears_79 (by decide) (by omega) (by omega) (fun h79 => absurd h79 (by omega)) (fun h79 => ?_)
    refine wp_iload d_Mo_fears_82 rfl ?_
    refine wp_bipush (x := nI 6) d_Mo_fears_84 (by decide) ?_
    refine wp_iconst (x := nI 2) d_Mo_fears_86 rfl ?_
    refine wp_iload d_Mo_fears_87 rfl ?_
    refine wp_imul d_Mo_fears_89 (pk_mul _ _) ?_
    refine wp_isub d_Mo_fears_90 rfl ?_
    refine wp_ishr d_Mo_fears_91 rfl ?_
    refine wp_iconst (x := nI 3) d_Mo_fears_92 rfl ?_
    refine wp_iand d_Mo_fears_93 (g) ?_
    refine wp_isto9 d_Mo_fears_94 rfl ?_
    refine wp_aload_n d_Mo_fears_96 rfl rfl ?_
    refine wp_getR d_Mo_fears_97 ow_Mo_fears fl_8_7 (O_91 _) rfl ?_
    refine wp_bipush (x := nI 9) d_Mo_fears_100 (by decide) ?_
    refine wp_iload d_Mo_fears_102 rfl ?_
    refine wp_iadd d_Mo_fears_104 (nI_add _ _) ?_
    refine wp_iload d_Mo_fears_105 rfl ?_
    refine wp_iastore d_Mo_fears_107 (A_92 _) (by omega) (by decide) ?_
    refine wp_iload d_Mo_fears_108 rfl ?_
    refine wp_iconst (x := nI 1) d_Mo_fears_110 rfl ?_
    refine wp_iload d_Mo_fears_111 rfl ?_
    refine wp_ishl d_Mo_fears_113 rfl ?_
    refine wp_ior d_Mo_fears_114 rfl ?_
    refine wp_isto6 d_Mo_fears_115 rfl ?_
    refine wp_bipush (x := nI 10) d_Mo_fears_117 (by decide) ?_
    refine wp_iload d_Mo_fears_119 rfl ?_
    refine wp_imul d_Mo_fears_121 (pk_mul _ _) ?_
    refine wp_iload d_Mo_fears_122 rfl ?_
    refine wp_iadd d_Mo_fears_124 (nI_add _ _) ?_
    refine wp_isto7 d_Mo_fears_125 rfl ?_
    refine wp_iinc8 d_Mo_fears_127 rfl (nI_add _ 1) ?_
    refine wp_goto (pc' := 76) d_Mo_fears_130 (by decide) ?_
    refine IH _ _ _ (mC_u C _ _) (fun j hj => (sp_up_ne _ _ (by omega)).trans (h1 j hj)) (fun j hj => ?_) (fun j hj => (wp_un (by omega)).trans (T j hj)) (fS.up (Or.inl ⟨rfl, by omega⟩))
    by_cases hjo : j = o
    · subst hjo
      exact if_pos rfl
    · rw [sp_up_ne _ _ (by omega)]
      exact h2 j (by omega)
theorem m_fe_out (hw : sp_wf q) (w : Int32) (s : Nat) (hs : s < 4) (z t : sp_R) (hz : S.2 101 = z ∧ S.2 102 = t) (K : ∀ S' p l6 l7 l8 l9, mC S' p (-1) → (∀ j, ¬ (9 ≤ j ∧ j < 13) → p j = q j) → mT S' q → fr mY S S' → wp (h_Mo_fears - 1) y_Mo_fears 169 [some (.ref 91), some (.int (nI s)), some (.int w), some (.int (sp_fe q z t s 256).2), some (.int (nI (sp_fe q z t s 256).1)), some (.int (nI 256)), l6, l7, l8, l9] [] S' Q) : ∀ m k (S' : wp_S) (p : sp_R) l6 l7 l8 l9, k + m = 256 → mC S' p (-1) → (∀ j, ¬ (9 ≤ j ∧ j < 13) → p j = q j) → mT S' q → fr mY S S' → wp (h_Mo_fears - 1) y_Mo_fears 59 [some (.ref 91), some (.int (nI s)), some (.int w), some (.int (sp_fe q z t s k).2), some (.int (nI (sp_fe q z t s k).1)), some (.int (nI k)), l6, l7, l8, l9] [] S' Q := by
  have hn := hw.n
  intro m
  induction m with
  | zero =>
    intro k S' p l6 l7 l8 l9 hk C h1 T fS
    obtain rfl : k = 256 := by omega
    refine wp_iload d_Mo_fears_59 rfl ?_
    refine wp_sipush (x := nI 256) d_Mo_fears_61 (by decide) ?_
    refine wp_icN_ge (pc' := 169) d_Mo_fears_64 (by decide) (by omega) (by omega) (fun _ => ?_) (fun q => absurd q (by decide))
    exact K S' p l6 l7 l8 l9 C h1 T fS
  | succ m ih =>
    intro k S' p l6 l7 l8 l9 hk C h1 T fS
    have hle := sp_fe_le q z t s k
    have e := sp_fe_s q z t s k
    have IH : ∀ r', sp_fe q z t s (k + 1) = r' → ∀ S' l6 l7 l8 l9, mC S' (sp_fq q k) (-1) → mT S' q → fr mY S S' → wp (h_Mo_fears - 1) y_Mo_fears 59 [some (.ref 91), some (.int (nI s)), some (.int w), some (.int r'.2), some (.int (nI r'.1)), some (.int (nI (k + 1))), l6, l7, l8, l9] [] S' Q := by
      intro r' hr' S' l6 l7 l8 l9 C' T' f'
      subst hr'
      exact ih (k + 1) S' _ l6 l7 l8 l9 (by omega) C' (fun j hj => if_neg hj) T' f'
    clear ih
    generalize sp_fe q z t s k = rr at e hle IH ⊢
    have st := fun l9 => m_fe_in (S := S) (Q := Q) (q := q) w rr.2 s rr.1 k (by omega) (fun S2 l9 C2 T2 f2 => by
      have hz2 : S2.2 101 = z ∧ S2.2 102 = t := ⟨(fr_Yz f2).1.trans hz.1, (fr_Yz f2).2.trans hz.2⟩
      letI := Classical.propDecidable (sp_ssP (sp_fq q k) z t s (sp_n (sp_fq q k)))
      refine wp_iload d_Mo_fears_133 rfl ?_
      refine wp_bipush (x := nI 15) d_Mo_fears_135 (by decide) ?_
      refine wp_ic_ne (pc' := 163) d_Mo_fears_137 (by decide) (fun h137 => ?_) (fun h137 => ?_)
      · refine wp_iinc5 d_Mo_fears_163 rfl (nI_add _ 1) ?_
        refine wp_goto (pc' := 59) d_Mo_fears_166 (by decide) ?_
        first
        | (rw [sp_nt_f (fun z => h137 z.1)] at e
           exact IH _ e S2 _ _ _ _ C2 T2 f2)
        | (rw [sp_nt_f (fun z => h145 z.2)] at e
           exact IH _ e S2 _ _ _ _ C2 T2 f2)
        | (rw [sp_nt_0 ⟨h137, h145⟩ h150] at e
           exact IH _ e S2 _ _ _ _ C2 T2 f2)
        | (rw [sp_nt_1 ⟨h137, h145⟩ h150] at e
           exact IH _ e S2 _ _ _ _ C2 T2 f2)
      · refine wp_aload_n d_Mo_fears_140 rfl rfl ?_
        refine wp_iload_n d_Mo_fears_141 rfl rfl ?_
        refine wp_invV d_Mo_fears_142 ow_Mo_fears lk_8_217 (by decide) mi_Mo_saySo rfl rfl (Nat.le_of_ble_eq_true rfl) rfl (wp_isC (O_91 _)) (show h_Mo_saySo ≤ _ from by decide) (m_saySoB' C2 (sp_fq_wf hw k) s hs hz2 ?_)
        refine wp_Ki ?_
        refine wp_ifB_eq (pc' := 163) d_Mo_fears_145 (by decide) (fun h145 => ?_) (fun h145 => ?_)
        · refine wp_iinc5 d_Mo_fears_163 rfl (nI_add _ 1) ?_
          refine wp_goto (pc' := 59) d_Mo_fears_166 (by decide) ?_
          first
          | (rw [sp_nt_f (fun z => h137 z.1)] at e
             exact IH _ e S2 _ _ _ _ C2 T2 f2)
          | (rw [sp_nt_f (fun z => h145 z.2)] at e
             exact IH _ e S2 _ _ _ _ C2 T2 f2)
          | (rw [sp_nt_0 ⟨h137, h145⟩ h150] at e
             exact IH _ e S2 _ _ _ _ C2 T2 f2)
          | (rw [sp_nt_1 ⟨h137, h145⟩ h150] at e
             exact IH _ e S2 _ _ _ _ C2 T2 f2)
        · refine wp_iload d_Mo_fears_148 rfl ?_
          refine wp_ifN_ne (pc' := 158) d_Mo_fears_150 (by decide) (by omega) (fun h150 => ?_) (fun h150 => ?_)
          · refine wp_iload_n d_Mo_fears_158 rfl rfl ?_
            refine wp_iston3 d_Mo_fears_159 rfl ?_
            refine wp_iinc4 d_Mo_fears_160 rfl (nI_add _ 1) ?_
            refine wp_iinc5 d_Mo_fears_163 rfl (nI_add _ 1) ?_
            refine wp_goto (pc' := 59) d_Mo_fears_166 (by decide) ?_
            first
            | (rw [sp_nt_f (fun z => h137 z.1)] at e
               exact IH _ e S2 _ _ _ _ C2 T2 f2)
            | (rw [sp_nt_f (fun z => h145 z.2)] at e
               exact IH _ e S2 _ _ _ _ C2 T2 f2)
            | (rw [sp_nt_0 ⟨h137, h145⟩ h150] at e
               exact IH _ e S2 _ _ _ _ C2 T2 f2)
            | (rw [sp_nt_1 ⟨h137, h145⟩ h150] at e
               exact IH _ e S2 _ _ _ _ C2 T2 f2)
          · refine wp_iload d_Mo_fears_153 rfl ?_
            refine wp_goto (pc' := 159) d_Mo_fears_155 (by decide) ?_
            refine wp_iston3 d_Mo_fears_159 rfl ?_
            refine wp_iinc4 d_Mo_fears_160 rfl (nI_add _ 1) ?_
            refine wp_iinc5 d_Mo_fears_163 rfl (nI_add _ 1) ?_
            refine wp_goto (pc' := 59) d_Mo_fears_166 (by decide) ?_
            first
            | (rw [sp_nt_f (fun z => h137 z.1)] at e
               exact IH _ e S2 _ _ _ _ C2 T2 f2)
            | (rw [sp_nt_f (fun z => h145 z.2)] at e
               exact IH _ e S2 _ _ _ _ C2 T2 f2)
            | (rw [sp_nt_0 ⟨h137, h145⟩ h150] at e
               exact IH _ e S2 _ _ _ _ C2 T2 f2)
            | (rw [sp_nt_1 ⟨h137, h145⟩ h150] at e
               exact IH _ e S2 _ _ _ _ C2 T2 f2)) 4 0 S' p l9 rfl C h1 (fun j hj => by omega) T fS
    refine wp_iload d_Mo_fears_59 rfl ?_
    refine wp_sipush (x := nI 256) d_Mo_fears_61 (by decide) ?_
    refine wp_icN_ge (pc' := 169) d_Mo_fears_64 (by decide) (by omega) (by omega) (fun h64 => absurd h64 (by omega)) (fun h64 => ?_)
    refine wp_iconst (x := nI 0) d_Mo_fears_67 rfl ?_
    refine wp_isto6 d_Mo_fears_68 rfl ?_
    refine wp_iconst (x := nI 0) d_Mo_fears_70 rfl ?_
    refine wp_isto7 d_Mo_fears_71 rfl ?_
    refine wp_iconst (x := nI 0) d_Mo_fears_73 rfl ?_
    refine wp_isto8 d_Mo_fears_74 rfl ?_
    exact st _
noncomputable def op_fears (q b z t : sp_R) (v w : Int32) : sp_Out := sp_if (sp_isW v 3 ∧ sp_isW w 1) (sp_if (b v.toNatClampNeg = 0) (sp_bad q 2) (sp_if ((sp_fe q z t v.toNatClampNeg 256).1 = 0) (sp_bad q 2) (0, sp_if (w = 0) (sp_fe q z t v.toNatClampNeg 256).2 (nI (sp_fe q z t v.toNatClampNeg 256).1), q))) (sp_bad q 1)
theorem m_fears (C : mC S q (-1)) (hw : sp_wf q) (v w : Int32) (K : mQ S (op_fears q (S.2 100) (S.2 101) (S.2 102) v w) Q) : cl h_Mo_fears y_Mo_fears [.ref k_Mo, .int v, .int w] S Q := by
  have hn := hw.n
  unfold op_fears at K
  by_cases h : sp_isW v 3 ∧ sp_isW w 1
  · rw [sp_if_t h] at K
    obtain ⟨s, hs, rfl⟩ := (i_in (by decide)).mp h.1
    rw [nI_clamp (by omega)] at K
    by_cases hb : S.2 100 s = 0
    · rw [sp_if_t hb] at K
      refine cl_in ml_Mo_fears rfl rfl ?_
      refine wp_iload_n d_Mo_fears_0 rfl rfl ?_
      refine wp_invS d_Mo_fears_1 ow_Mo_fears lk_8_214 (by decide) mi_Mo_isSheet rfl rfl (Nat.le_of_ble_eq_true rfl) rfl (show h_Mo_isSheet ≤ _ from by decide) (m_isSheet _ ?_)
      refine wp_Ki ?_
      refine wp_ifB_eq (pc' := 16) d_Mo_fears_4 (by decide) (fun h4 => absurd h.1 h4) (fun h4 => ?_)
      refine wp_iload_n d_Mo_fears_7 rfl rfl ?_
      refine wp_iconst (x := nI 0) d_Mo_fears_8 rfl ?_
      refine wp_iconst (x := nI 1) d_Mo_fears_9 rfl ?_
      refine wp_invS d_Mo_fears_10 ow_Mo_fears lk_8_54 (by decide) mi_Mo_in rfl rfl (Nat.le_of_ble_eq_true rfl) rfl (show h_Mo_in ≤ _ from by decide) (m_in _ _ _ ?_)
      refine wp_Ki ?_
      refine wp_ifB_ne (pc' := 23) d_Mo_fears_13 (by decide) (fun h13 => ?_) (fun h13 => absurd h.2 h13)
      refine wp_aload_n d_Mo_fears_23 rfl rfl ?_
      refine wp_getR d_Mo_fears_24 ow_Mo_fears fl_8_38 (O_91 _) rfl ?_
      refine wp_iload_n d_Mo_fears_27 rfl rfl ?_
      refine wp_iaload d_Mo_fears_28 (A_100 _) (by omega) (by decide) (rfl) ?_
      refine wp_if_ne (pc' := 39) d_Mo_fears_29 (by decide) (fun h29 => absurd hb h29) (fun h29 => ?_)
      refine wp_aload_n d_Mo_fears_32 rfl rfl ?_
      refine wp_ldc (v := .int (-1000000002)) d_Mo_fears_33 ow_Mo_fears (by decide +kernel) ?_
      refine wp_invV d_Mo_fears_35 ow_Mo_fears lk_8_59 (by decide) mi_Mo_errs rfl rfl (Nat.le_of_ble_eq_true rfl) rfl (wp_isC (O_91 _)) (show h_Mo_errs ≤ _ from by decide) (m_errs _ 2 (by decide) (by decide) ?_)
      refine wp_Ki ?_
      refine wp_reti d_Mo_fears_38 rt_Mo_fears ?_
      exact lf_i (by decide) (mQ_er (e := 2) K (by decide) C fr.rf)
    · rw [sp_if_f hb] at K
      obtain ⟨c0, t0, f0⟩ := mT_0 C
      have hle := sp_fe_le q (S.2 101) (S.2 102) s 256
      have e0 := sp_fe_0 q (S.2 101) (S.2 102) s
      have st := m_fe_out (S := S) (Q := Q) hw w s (by omega) (S.2 101) (S.2 102) ⟨rfl, rfl⟩ (fun S' p l6 l7 l8 l9 C' h1' T' f' => by
        generalize sp_fe q (S.2 101) (S.2 102) s 256 = rr at K hle ⊢
        have C3 := mT_b C' T' (fun j hj => h1' j (by omega))
        refine wp_aload_n d_Mo_fears_169 rfl rfl ?_
        refine wp_aload_n d_Mo_fears_170 rfl rfl ?_
        refine wp_getR d_Mo_fears_171 ow_Mo_fears fl_8_16 (O_91 _) rfl ?_
        refine wp_aload_n d_Mo_fears_174 rfl rfl ?_
        refine wp_getR d_Mo_fears_175 ow_Mo_fears fl_8_7 (O_91 _) rfl ?_
        refine wp_invV d_Mo_fears_178 ow_Mo_fears lk_8_197 (by decide) mi_Mo_moveAll rfl rfl (Nat.le_of_ble_eq_true rfl) rfl (wp_isC (O_91 _)) (show h_Mo_moveAll ≤ _ from by decide) (m_moveAll (a := 94) (b := 92) (by decide) A_94 A_92 ?_)
        refine wp_Kv ?_
        refine wp_iload d_Mo_fears_181 rfl ?_
        refine wp_ifN_ne (pc' := 193) d_Mo_fears_183 (by decide) (by omega) (fun h183 => ?_) (fun h183 => ?_)
        · refine wp_iload_n d_Mo_fears_193 rfl rfl ?_
          refine wp_if_ne (pc' := 201) d_Mo_fears_194 (by decide) (fun h194 => ?_) (fun h194 => ?_)
          · refine wp_iload d_Mo_fears_201 rfl ?_
            refine wp_reti d_Mo_fears_203 rt_Mo_fears ?_
            rw [sp_if_f h183, sp_if_f h194] at K
            exact mQ_ok K C3 (mT_f f')
          · refine wp_iload_n d_Mo_fears_197 rfl rfl ?_
            refine wp_goto (pc' := 203) d_Mo_fears_198 (by decide) ?_
            refine wp_reti d_Mo_fears_203 rt_Mo_fears ?_
            rw [sp_if_f h183, sp_if_t h194] at K
            exact mQ_ok K C3 (mT_f f')
        · refine wp_aload_n d_Mo_fears_186 rfl rfl ?_
          refine wp_ldc (v := .int (-1000000002)) d_Mo_fears_187 ow_Mo_fears (by decide +kernel) ?_
          refine wp_invV d_Mo_fears_189 ow_Mo_fears lk_8_59 (by decide) mi_Mo_errs rfl rfl (Nat.le_of_ble_eq_true rfl) rfl (wp_isC (O_91 _)) (show h_Mo_errs ≤ _ from by decide) (m_errs _ 2 (by decide) (by decide) ?_)
          refine wp_Ki ?_
          refine wp_reti d_Mo_fears_192 rt_Mo_fears ?_
          rw [sp_if_t h183] at K
          exact lf_i (by decide) (mQ_er (e := 2) K (by decide) C3 (mT_f f'))) 256 0 _ q none none none none (Nat.zero_add _) c0 (fun j _ => rfl) t0 f0
      rw [e0] at st
      refine cl_in ml_Mo_fears rfl rfl ?_
      refine wp_iload_n d_Mo_fears_0 rfl rfl ?_
      refine wp_invS d_Mo_fears_1 ow_Mo_fears lk_8_214 (by decide) mi_Mo_isSheet rfl rfl (Nat.le_of_ble_eq_true rfl) rfl (show h_Mo_isSheet ≤ _ from by decide) (m_isSheet _ ?_)
      refine wp_Ki ?_
      refine wp_ifB_eq (pc' := 16) d_Mo_fears_4 (by decide) (fun h4 => absurd h.1 h4) (fun h4 => ?_)
      refine wp_iload_n d_Mo_fears_7 rfl rfl ?_
      refine wp_iconst (x := nI 0) d_Mo_fears_8 rfl ?_
      refine wp_iconst (x := nI 1) d_Mo_fears_9 rfl ?_
      refine wp_invS d_Mo_fears_10 ow_Mo_fears lk_8_54 (by decide) mi_Mo_in rfl rfl (Nat.le_of_ble_eq_true rfl) rfl (show h_Mo_in ≤ _ from by decide) (m_in _ _ _ ?_)
      refine wp_Ki ?_
      refine wp_ifB_ne (pc' := 23) d_Mo_fears_13 (by decide) (fun h13 => ?_) (fun h13 => absurd h.2 h13)
      refine wp_aload_n d_Mo_fears_23 rfl rfl ?_
      refine wp_getR d_Mo_fears_24 ow_Mo_fears fl_8_38 (O_91 _) rfl ?_
      refine wp_iload_n d_Mo_fears_27 rfl rfl ?_
      refine wp_iaload d_Mo_fears_28 (A_100 _) (by omega) (by decide) (rfl) ?_
      refine wp_if_ne (pc' := 39) d_Mo_fears_29 (by decide) (fun h29 => ?_) (fun h29 => absurd h29 hb)
      refine wp_iconst (x := -1) d_Mo_fears_39 rfl ?_
      refine wp_iston3 d_Mo_fears_40 rfl ?_
      refine wp_iconst (x := nI 0) d_Mo_fears_41 rfl ?_
      refine wp_isto4 d_Mo_fears_42 rfl ?_
      refine wp_aload_n d_Mo_fears_44 rfl rfl ?_
      refine wp_aload_n d_Mo_fears_45 rfl rfl ?_
      refine wp_getR d_Mo_fears_46 ow_Mo_fears fl_8_7 (O_91 _) rfl ?_
      refine wp_aload_n d_Mo_fears_49 rfl rfl ?_
      refine wp_getR d_Mo_fears_50 ow_Mo_fears fl_8_16 (O_91 _) rfl ?_
      refine wp_invV d_Mo_fears_53 ow_Mo_fears lk_8_197 (by decide) mi_Mo_moveAll rfl rfl (Nat.le_of_ble_eq_true rfl) rfl (wp_isC (O_91 _)) (show h_Mo_moveAll ≤ _ from by decide) (m_moveAll (a := 92) (b := 94) (by decide) A_92 A_94 ?_)
      refine wp_Kv ?_
      refine wp_iconst (x := nI 0) d_Mo_fears_56 rfl ?_
      refine wp_isto5 d_Mo_fears_57 rfl ?_
      exact st
  · rw [sp_if_f h] at K
    refine cl_in ml_Mo_fears rfl rfl ?_
    refine wp_iload_n d_Mo_fears_0 rfl rfl ?_
    refine wp_invS d_Mo_fears_1 ow_Mo_fears lk_8_214 (by decide) mi_Mo_isSheet rfl rfl (Nat.le_of_ble_eq_true rfl) rfl (show h_Mo_isSheet ≤ _ from by decide) (m_isSheet _ ?_)
    refine wp_Ki ?_
    refine wp_ifB_eq (pc' := 16) d_Mo_fears_4 (by decide) (fun h4 => ?_) (fun h4 => ?_)
    · refine wp_aload_n d_Mo_fears_16 rfl rfl ?_
      refine wp_ldc (v := .int (-1000000001)) d_Mo_fears_17 ow_Mo_fears (by decide +kernel) ?_
      refine wp_invV d_Mo_fears_19 ow_Mo_fears lk_8_59 (by decide) mi_Mo_errs rfl rfl (Nat.le_of_ble_eq_true rfl) rfl (wp_isC (O_91 _)) (show h_Mo_errs ≤ _ from by decide) (m_errs _ 1 (by decide) (by decide) ?_)
      refine wp_Ki ?_
      refine wp_reti d_Mo_fears_22 rt_Mo_fears ?_
      exact lf_i (by decide) (mQ_er (e := 1) K (by decide) C fr.rf)
    · refine wp_iload_n d_Mo_fears_7 rfl rfl ?_
      refine wp_iconst (x := nI 0) d_Mo_fears_8 rfl ?_
      refine wp_iconst (x := nI 1) d_Mo_fears_9 rfl ?_
      refine wp_invS d_Mo_fears_10 ow_Mo_fears lk_8_54 (by decide) mi_Mo_in rfl rfl (Nat.le_of_ble_eq_true rfl) rfl (show h_Mo_in ≤ _ from by decide) (m_in _ _ _ ?_)
      refine wp_Ki ?_
      refine wp_ifB_ne (pc' := 23) d_Mo_fears_13 (by decide) (fun h13 => absurd ⟨h4, h13⟩ h) (fun h13 => ?_)
      refine wp_aload_n d_Mo_fears_16 rfl rfl ?_
      refine wp_ldc (v := .int (-1000000001)) d_Mo_fears_17 ow_Mo_fears (by decide +kernel) ?_
      refine wp_invV d_Mo_fears_19 ow_Mo_fears lk_8_59 (by decide) mi_Mo_errs rfl rfl (Nat.le_of_ble_eq_true rfl) rfl (wp_isC (O_91 _)) (show h_Mo_errs ≤ _ from by decide) (m_errs _ 1 (by decide) (by decide) ?_)
      refine wp_Ki ?_
      refine wp_reti d_Mo_fears_22 rt_Mo_fears ?_
      exact lf_i (by decide) (mQ_er (e := 1) K (by decide) C fr.rf)
end OF2
