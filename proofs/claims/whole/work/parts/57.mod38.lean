/-! the reference: one telling by which all say so -/
noncomputable def sp_nt (P : Prop) (x : Int32) (r : Nat × Int32) : Nat × Int32 := sp_if P (r.1 + 1, sp_if (r.1 = 0) x r.2) r
theorem sp_nt_f {P : Prop} {x : Int32} {r : Nat × Int32} (h : ¬ P) : sp_nt P x r = r := sp_if_f h
theorem sp_nt_0 {P : Prop} {x : Int32} {r : Nat × Int32} (h : P) (h0 : r.1 = 0) : sp_nt P x r = (r.1 + 1, x) := (sp_if_t h).trans (by rw [sp_if_t h0])
theorem sp_nt_1 {P : Prop} {x : Int32} {r : Nat × Int32} (h : P) (h0 : ¬ r.1 = 0) : sp_nt P x r = (r.1 + 1, r.2) := (sp_if_t h).trans (by rw [sp_if_f h0])
theorem sp_nt_le {P : Prop} {x : Int32} {r : Nat × Int32} : (sp_nt P x r).1 ≤ r.1 + 1 := by
  by_cases h : P
  · by_cases h0 : r.1 = 0
    · rw [sp_nt_0 h h0]; exact Nat.le_refl _
    · rw [sp_nt_1 h h0]; exact Nat.le_refl _
  · rw [sp_nt_f h]; exact Nat.le_succ _
noncomputable def sp_oi (q z t : sp_R) (s o : Nat) (r : Nat × Int32) : Nat → Nat × Int32
  | 0 => r
  | i + 1 => sp_nt (sp_ssP (sp_hr q o i) z t s (sp_n (sp_hr q o i))) (nI (10 * o + i)) (sp_oi q z t s o r i)
theorem sp_oi_0 (q z t : sp_R) (s o : Nat) (r : Nat × Int32) : sp_oi q z t s o r 0 = r := by rw [sp_oi]
theorem sp_oi_s (q z t : sp_R) (s o : Nat) (r : Nat × Int32) (i : Nat) : sp_oi q z t s o r (i + 1) = sp_nt (sp_ssP (sp_hr q o i) z t s (sp_n (sp_hr q o i))) (nI (10 * o + i)) (sp_oi q z t s o r i) := by rw [sp_oi]
theorem sp_oi_le (q z t : sp_R) (s o : Nat) (r : Nat × Int32) : ∀ i, (sp_oi q z t s o r i).1 ≤ r.1 + i
  | 0 => by rw [sp_oi_0]; exact Nat.le_refl _
  | i + 1 => by
    rw [sp_oi_s]
    exact Nat.le_trans sp_nt_le (Nat.succ_le_succ (sp_oi_le q z t s o r i))
noncomputable def sp_on (q z t : sp_R) (s : Nat) : Nat → Nat × Int32
  | 0 => (0, -1)
  | o + 1 => sp_oi q z t s o (sp_on q z t s o) (sp_n q)
theorem sp_on_0 (q z t : sp_R) (s : Nat) : sp_on q z t s 0 = (0, -1) := by rw [sp_on]
theorem sp_on_s (q z t : sp_R) (s o : Nat) : sp_on q z t s (o + 1) = sp_oi q z t s o (sp_on q z t s o) (sp_n q) := by rw [sp_on]
theorem sp_on_le (q z t : sp_R) (s : Nat) : ∀ o, (sp_on q z t s o).1 ≤ o * sp_n q
  | 0 => by rw [sp_on_0]; exact Nat.zero_le _
  | o + 1 => by
    rw [sp_on_s, Nat.succ_mul]
    exact Nat.le_trans (sp_oi_le ..) (Nat.add_le_add_right (sp_on_le q z t s o) _)
def mT (S : wp_S) (q : sp_R) : Prop := ∀ j, j < 283 → S.2 94 j = q j
theorem fr_Yz {S S' : wp_S} (f : fr mY S S') : S'.2 101 = S.2 101 ∧ S'.2 102 = S.2 102 := ⟨f.row (fun j z => by unfold mY ps_D at z; omega), f.row (fun j z => by unfold mY ps_D at z; omega)⟩
theorem mT_b {S : wp_S} {q p : sp_R} (C : mC S p (-1)) (t : mT S q) (h : ∀ j, 283 ≤ j → p j = q j) : mC (mv S 94 92 283) q (-1) := ⟨funext fun j => by
  show (if 92 = 92 ∧ j < 283 then S.2 94 j else S.2 92 j) = q j
  by_cases hj : j < 283
  · rw [if_pos ⟨rfl, hj⟩]; exact t j hj
  · rw [if_neg (fun z => hj z.2)]; exact (congrFun C.1 j).trans (h j (by omega)), (if_neg (by omega) : (if 91 = 92 ∧ 7 < 283 then S.2 94 7 else S.2 91 7) = S.2 91 7).trans C.2⟩
theorem mT_k {S S' : wp_S} {q : sp_R} (t : mT S q) (f : fr ps_D S S') : mT S' q := fun j hj => (f.2 94 j (fun z => by unfold ps_D at z; omega)).trans (t j hj)
theorem mT_h {S S' : wp_S} {q : sp_R} (t : mT S q) (f : fr mR S S') : mT S' q := fun j hj => (f.2 94 j (fun z => by unfold mR at z; omega)).trans (t j hj)
theorem mT_m {S : wp_S} {q : sp_R} (t : mT S q) : mT (mv S 94 92 283) q := fun j hj => (if_neg (by omega) : (if 94 = 92 ∧ j < 283 then S.2 94 j else S.2 94 j) = S.2 94 j).trans (t j hj)
theorem mT_f {S S' : wp_S} (f : fr mY S S') : fr mY S (mv S' 94 92 283) := f.tr ⟨rfl, fun k j h => if_neg (fun z => h (Or.inl ⟨z.1, z.2⟩))⟩
theorem mT_0 {S : wp_S} {q : sp_R} (C : mC S q (-1)) : mC (mv S 92 94 283) q (-1) ∧ mT (mv S 92 94 283) q ∧ fr mY S (mv S 92 94 283) := ⟨⟨(funext fun j => (if_neg (by omega) : (if 92 = 94 ∧ j < 283 then S.2 92 j else S.2 92 j) = S.2 92 j)).trans C.1, (if_neg (by omega) : (if 91 = 94 ∧ 7 < 283 then S.2 92 7 else S.2 91 7) = S.2 91 7).trans C.2⟩, fun j hj => (if_pos ⟨rfl, hj⟩ : (if 94 = 94 ∧ j < 283 then S.2 92 j else S.2 94 j) = S.2 92 j).trans (congrFun C.1 j), ⟨rfl, fun k j h => if_neg (fun z => h (Or.inr (Or.inl z.1)))⟩⟩
section ON2
variable {S : wp_S} {q : sp_R} {mu : Int32} {Q : Option Value → wp_S → Prop}
theorem m_saySoB' {z t : sp_R} (C : mC S q (-1)) (hw : sp_wf q) (s : Nat) (hs : s < 4) (hz : S.2 101 = z ∧ S.2 102 = t) (K : Q (some (.int (sp_bi (sp_ssP q z t s (sp_n q))))) S) : cl h_Mo_saySo y_Mo_saySo [.ref k_Mo, .int (nI s)] S Q := by
  obtain ⟨rfl, rfl⟩ := hz
  exact m_saySoB C hw s hs K
theorem m_oi (hw : sp_wf q) (w : Int32) (s o : Nat) (hs : s < 4) (ho : o < 4) (z t : sp_R) (hz : S.2 101 = z ∧ S.2 102 = t) (r : Nat × Int32) (hr : r.1 ≤ 30) (K : ∀ S', mC S' q (-1) → mT S' q → fr mY S S' → wp (h_Mo_one - 1) y_Mo_one 134 [some (.ref 91), some (.int (nI s)), some (.int w), some (.int (sp_oi q z t s o r (sp_n q)).2), some (.int (nI (sp_oi q z t s o r (sp_n q)).1)), some (.int (nI o)), some (.int (nI (sp_n q)))] [] S' Q) : ∀ m i (S' : wp_S), i + m = sp_n q → mC S' q (-1) → mT S' q → fr mY S S' → wp (h_Mo_one - 1) y_Mo_one 68 [some (.ref 91), some (.int (nI s)), some (.int w), some (.int (sp_oi q z t s o r i).2), some (.int (nI (sp_oi q z t s o r i).1)), some (.int (nI o)), some (.int (nI i))] [] S' Q := by
  have hn := hw.n
  intro m
  induction m with
  | zero =>
    intro i S' hi C T fS
    obtain rfl : i = sp_n q := by omega
    refine wp_iload d_Mo_one_68 rfl ?_
    refine wp_aload_n d_Mo_one_70 rfl rfl ?_
    refine wp_getR d_Mo_one_71 ow_Mo_one fl_8_7 (O_91 _) rfl ?_
    refine wp_iconst (x := nI 0) d_Mo_one_74 rfl ?_
    refine wp_iaload d_Mo_one_75 (A_92 _) (by omega) (by decide) ((congrFun C.1 0).trans hn.2) ?_
    refine wp_icN_ge (pc' := 134) d_Mo_one_76 (by decide) (by omega) (by omega) (fun h76 => ?_) (fun h76 => absurd h76 (by omega))
    exact K S' C T fS
  | succ m ih =>
    intro i S' hi C T fS
    have e := sp_oi_s q z t s o r i
    have hle := sp_oi_le q z t s o r i
    have K116 : ∀ (S3 : wp_S) (r' : Nat × Int32), sp_oi q z t s o r (i + 1) = r' → mC S3 (sp_hr q o i) (-1) → mT S3 q → fr mY S S3 → wp (h_Mo_one - 1) y_Mo_one 116 [some (.ref 91), some (.int (nI s)), some (.int w), some (.int r'.2), some (.int (nI r'.1)), some (.int (nI o)), some (.int (nI i))] [] S3 Q := by
      intro S3 r' hr' C3 T3 f3
      subst hr'
      refine wp_aload_n d_Mo_one_116 rfl rfl ?_
      refine wp_aload_n d_Mo_one_117 rfl rfl ?_
      refine wp_getR d_Mo_one_118 ow_Mo_one fl_8_16 (O_91 _) rfl ?_
      refine wp_aload_n d_Mo_one_121 rfl rfl ?_
      refine wp_getR d_Mo_one_122 ow_Mo_one fl_8_7 (O_91 _) rfl ?_
      refine wp_invV d_Mo_one_125 ow_Mo_one lk_8_197 (by decide) mi_Mo_moveAll rfl rfl (Nat.le_of_ble_eq_true rfl) rfl (wp_isC (O_91 _)) (show h_Mo_moveAll ≤ _ from by decide) (m_moveAll (a := 94) (b := 92) (by decide) A_94 A_92 ?_)
      refine wp_Kv ?_
      refine wp_iinc6 d_Mo_one_128 rfl (nI_add _ 1) ?_
      refine wp_goto (pc' := 68) d_Mo_one_131 (by decide) ?_
      exact ih (i + 1) _ (by omega) (mT_b C3 T3 (fun j hj => sp_hr_ne q o i (Or.inr (by omega)) ho)) (mT_m T3) (mT_f f3)
    generalize sp_oi q z t s o r i = rr at e hle K116 ⊢
    letI := Classical.propDecidable (sp_ssP (sp_hr q o i) z t s (sp_n (sp_hr q o i)))
    refine wp_iload d_Mo_one_68 rfl ?_
    refine wp_aload_n d_Mo_one_70 rfl rfl ?_
    refine wp_getR d_Mo_one_71 ow_Mo_one fl_8_7 (O_91 _) rfl ?_
    refine wp_iconst (x := nI 0) d_Mo_one_74 rfl ?_
    refine wp_iaload d_Mo_one_75 (A_92 _) (by omega) (by decide) ((congrFun C.1 0).trans hn.2) ?_
    refine wp_icN_ge (pc' := 134) d_Mo_one_76 (by decide) (by omega) (by omega) (fun h76 => absurd h76 (by omega)) (fun h76 => ?_)
    refine wp_aload_n d_Mo_one_79 rfl rfl ?_
    refine wp_iload d_Mo_one_80 rfl ?_
    refine wp_iload d_Mo_one_82 rfl ?_
    refine wp_invV d_Mo_one_84 ow_Mo_one lk_8_113 (by decide) mi_Mo_hears rfl rfl (Nat.le_of_ble_eq_true rfl) rfl (wp_isC (O_91 _)) (show h_Mo_hears ≤ _ from by decide) (m_hears C o i (by omega) ho (hw.f (by omega)) (fun S2 C2 f2 => ?_))
    refine wp_Kv ?_
    have hz2 : S2.2 101 = z ∧ S2.2 102 = t := ⟨((fr_Yz (fr_YR f2)).1.trans (fr_Yz fS).1).trans hz.1, ((fr_Yz (fr_YR f2)).2.trans (fr_Yz fS).2).trans hz.2⟩
    refine wp_aload_n d_Mo_one_87 rfl rfl ?_
    refine wp_iload_n d_Mo_one_88 rfl rfl ?_
    refine wp_invV d_Mo_one_89 ow_Mo_one lk_8_217 (by decide) mi_Mo_saySo rfl rfl (Nat.le_of_ble_eq_true rfl) rfl (wp_isC (O_91 _)) (show h_Mo_saySo ≤ _ from by decide) (m_saySoB' C2 (sp_hr_wf hw (by omega) ho) s hs hz2 ?_)
    refine wp_Ki ?_
    refine wp_ifB_eq (pc' := 116) d_Mo_one_92 (by decide) (fun h92 => ?_) (fun h92 => ?_)
    · first
      | (rw [sp_nt_0 h92 h97] at e
         exact (pk_mul 10 o ▸ nI_add (10 * o) i : nI 10 * nI o + nI i = nI (10 * o + i)) ▸ K116 S2 _ e C2 (mT_h T f2) (fS.tr (fr_YR f2)))
      | (rw [sp_nt_1 h92 h97] at e
         exact K116 S2 _ e C2 (mT_h T f2) (fS.tr (fr_YR f2)))
      | (rw [sp_nt_f h92] at e
         exact K116 S2 _ e C2 (mT_h T f2) (fS.tr (fr_YR f2)))
    · refine wp_iload d_Mo_one_95 rfl ?_
      refine wp_ifN_ne (pc' := 111) d_Mo_one_97 (by decide) (by omega) (fun h97 => ?_) (fun h97 => ?_)
      · refine wp_iload_n d_Mo_one_111 rfl rfl ?_
        refine wp_iston3 d_Mo_one_112 rfl ?_
        refine wp_iinc4 d_Mo_one_113 rfl (nI_add _ 1) ?_
        first
        | (rw [sp_nt_0 h92 h97] at e
           exact (pk_mul 10 o ▸ nI_add (10 * o) i : nI 10 * nI o + nI i = nI (10 * o + i)) ▸ K116 S2 _ e C2 (mT_h T f2) (fS.tr (fr_YR f2)))
        | (rw [sp_nt_1 h92 h97] at e
           exact K116 S2 _ e C2 (mT_h T f2) (fS.tr (fr_YR f2)))
        | (rw [sp_nt_f h92] at e
           exact K116 S2 _ e C2 (mT_h T f2) (fS.tr (fr_YR f2)))
      · refine wp_bipush (x := nI 10) d_Mo_one_100 (by decide) ?_
        refine wp_iload d_Mo_one_102 rfl ?_
        refine wp_imul d_Mo_one_104 (pk_mul _ _) ?_
        refine wp_iload d_Mo_one_105 rfl ?_
        refine wp_iadd d_Mo_one_107 (nI_add _ _) ?_
        refine wp_goto (pc' := 112) d_Mo_one_108 (by decide) ?_
        refine wp_iston3 d_Mo_one_112 rfl ?_
        refine wp_iinc4 d_Mo_one_113 rfl (nI_add _ 1) ?_
        first
        | (rw [sp_nt_0 h92 h97] at e
           exact (pk_mul 10 o ▸ nI_add (10 * o) i : nI 10 * nI o + nI i = nI (10 * o + i)) ▸ K116 S2 _ e C2 (mT_h T f2) (fS.tr (fr_YR f2)))
        | (rw [sp_nt_1 h92 h97] at e
           exact K116 S2 _ e C2 (mT_h T f2) (fS.tr (fr_YR f2)))
        | (rw [sp_nt_f h92] at e
           exact K116 S2 _ e C2 (mT_h T f2) (fS.tr (fr_YR f2)))
theorem m_oo (hw : sp_wf q) (w : Int32) (s : Nat) (hs : s < 4) (z t : sp_R) (hz : S.2 101 = z ∧ S.2 102 = t) (K : ∀ S' l6, mC S' q (-1) → fr mY S S' → wp (h_Mo_one - 1) y_Mo_one 140 [some (.ref 91), some (.int (nI s)), some (.int w), some (.int (sp_on q z t s 4).2), some (.int (nI (sp_on q z t s 4).1)), some (.int (nI 4)), l6] [] S' Q) : ∀ m o (S' : wp_S) l6, o + m = 4 → mC S' q (-1) → mT S' q → fr mY S S' → wp (h_Mo_one - 1) y_Mo_one 59 [some (.ref 91), some (.int (nI s)), some (.int w), some (.int (sp_on q z t s o).2), some (.int (nI (sp_on q z t s o).1)), some (.int (nI o)), l6] [] S' Q := by
  have hn := hw.n
  intro m
  induction m with
  | zero =>
    intro o S' l6 ho C T fS
    obtain rfl : o = 4 := by omega
    refine wp_iload d_Mo_one_59 rfl ?_
    refine wp_iconst (x := nI 4) d_Mo_one_61 rfl ?_
    refine wp_icN_ge (pc' := 140) d_Mo_one_62 (by decide) (by omega) (by omega) (fun _ => ?_) (fun q => absurd q (by decide))
    exact K S' l6 C fS
  | succ m ih =>
    intro o S' l6 ho C T fS
    have hle := sp_on_le q z t s o
    have hle2 : o * sp_n q ≤ 3 * 10 := Nat.mul_le_mul (by omega) hn.1
    have e0 := sp_oi_0 q z t s o (sp_on q z t s o)
    have es := sp_on_s q z t s o
    have IH := fun S' l6 => ih (o + 1) S' l6 (by omega)
    rw [es] at IH
    have st := m_oi (S := S) (Q := Q) hw w s o hs (by omega) z t hz (sp_on q z t s o) (by omega) (fun S' C' T' f' => by
      refine wp_iinc5 d_Mo_one_134 rfl (nI_add _ 1) ?_
      refine wp_goto (pc' := 59) d_Mo_one_137 (by decide) ?_
      exact IH S' _ C' T' f') (sp_n q) 0 S' (Nat.zero_add _) C T fS
    rw [e0] at st
    refine wp_iload d_Mo_one_59 rfl ?_
    refine wp_iconst (x := nI 4) d_Mo_one_61 rfl ?_
    refine wp_icN_ge (pc' := 140) d_Mo_one_62 (by decide) (by omega) (by omega) (fun h62 => absurd h62 (by omega)) (fun h62 => ?_)
    refine wp_iconst (x := nI 0) d_Mo_one_65 rfl ?_
    refine wp_isto6 d_Mo_one_66 rfl ?_
    exact st
noncomputable def op_one (q b z t : sp_R) (v w : Int32) : sp_Out := sp_if (sp_isW v 3 ∧ sp_isW w 1) (sp_if (b v.toNatClampNeg = 0) (sp_bad q 2) (sp_if ((sp_on q z t v.toNatClampNeg 4).1 = 0) (sp_bad q 2) (0, sp_if (w = 0) (sp_on q z t v.toNatClampNeg 4).2 (nI (sp_on q z t v.toNatClampNeg 4).1), q))) (sp_bad q 1)
theorem m_one (C : mC S q (-1)) (hw : sp_wf q) (v w : Int32) (K : mQ S (op_one q (S.2 100) (S.2 101) (S.2 102) v w) Q) : cl h_Mo_one y_Mo_one [.ref k_Mo, .int v, .int w] S Q := by
  have hn := hw.n
  unfold op_one at K
  by_cases h : sp_isW v 3 ∧ sp_isW w 1
  · rw [sp_if_t h] at K
    obtain ⟨s, hs, rfl⟩ := (i_in (by decide)).mp h.1
    rw [nI_clamp (by omega)] at K
    by_cases hb : S.2 100 s = 0
    · rw [sp_if_t hb] at K
      refine cl_in ml_Mo_one rfl rfl ?_
      refine wp_iload_n d_Mo_one_0 rfl rfl ?_
      refine wp_invS d_Mo_one_1 ow_Mo_one lk_8_214 (by decide) mi_Mo_isSheet rfl rfl (Nat.le_of_ble_eq_true rfl) rfl (show h_Mo_isSheet ≤ _ from by decide) (m_isSheet _ ?_)
      refine wp_Ki ?_
      refine wp_ifB_eq (pc' := 16) d_Mo_one_4 (by decide) (fun h4 => absurd h.1 h4) (fun h4 => ?_)
      refine wp_iload_n d_Mo_one_7 rfl rfl ?_
      refine wp_iconst (x := nI 0) d_Mo_one_8 rfl ?_
      refine wp_iconst (x := nI 1) d_Mo_one_9 rfl ?_
      refine wp_invS d_Mo_one_10 ow_Mo_one lk_8_54 (by decide) mi_Mo_in rfl rfl (Nat.le_of_ble_eq_true rfl) rfl (show h_Mo_in ≤ _ from by decide) (m_in _ _ _ ?_)
      refine wp_Ki ?_
      refine wp_ifB_ne (pc' := 23) d_Mo_one_13 (by decide) (fun h13 => ?_) (fun h13 => absurd h.2 h13)
      refine wp_aload_n d_Mo_one_23 rfl rfl ?_
      refine wp_getR d_Mo_one_24 ow_Mo_one fl_8_38 (O_91 _) rfl ?_
      refine wp_iload_n d_Mo_one_27 rfl rfl ?_
      refine wp_iaload d_Mo_one_28 (A_100 _) (by omega) (by decide) (rfl) ?_
      refine wp_if_ne (pc' := 39) d_Mo_one_29 (by decide) (fun h29 => absurd hb h29) (fun h29 => ?_)
      refine wp_aload_n d_Mo_one_32 rfl rfl ?_
      refine wp_ldc (v := .int (-1000000002)) d_Mo_one_33 ow_Mo_one (by decide +kernel) ?_
      refine wp_invV d_Mo_one_35 ow_Mo_one lk_8_59 (by decide) mi_Mo_errs rfl rfl (Nat.le_of_ble_eq_true rfl) rfl (wp_isC (O_91 _)) (show h_Mo_errs ≤ _ from by decide) (m_errs _ 2 (by decide) (by decide) ?_)
      refine wp_Ki ?_
      refine wp_reti d_Mo_one_38 rt_Mo_one ?_
      exact lf_i (by decide) (mQ_er (e := 2) K (by decide) C fr.rf)
    · rw [sp_if_f hb] at K
      obtain ⟨c0, t0, f0⟩ := mT_0 C
      have hle := sp_on_le q (S.2 101) (S.2 102) s 4
      have hle2 : 4 * sp_n q ≤ 4 * 10 := Nat.mul_le_mul (Nat.le_refl _) hn.1
      have e0 := sp_on_0 q (S.2 101) (S.2 102) s
      have st := m_oo (S := S) (Q := Q) hw w s (by omega) (S.2 101) (S.2 102) ⟨rfl, rfl⟩ (fun S' l6 C' f' => by
        generalize sp_on q (S.2 101) (S.2 102) s 4 = rr at K hle ⊢
        refine wp_iload d_Mo_one_140 rfl ?_
        refine wp_ifN_ne (pc' := 152) d_Mo_one_142 (by decide) (by omega) (fun h142 => ?_) (fun h142 => ?_)
        · refine wp_iload_n d_Mo_one_152 rfl rfl ?_
          refine wp_if_ne (pc' := 160) d_Mo_one_153 (by decide) (fun h153 => ?_) (fun h153 => ?_)
          · refine wp_iload d_Mo_one_160 rfl ?_
            refine wp_reti d_Mo_one_162 rt_Mo_one ?_
            rw [sp_if_f h142, sp_if_f h153] at K
            exact mQ_ok K C' f'
          · refine wp_iload_n d_Mo_one_156 rfl rfl ?_
            refine wp_goto (pc' := 162) d_Mo_one_157 (by decide) ?_
            refine wp_reti d_Mo_one_162 rt_Mo_one ?_
            rw [sp_if_f h142, sp_if_t h153] at K
            exact mQ_ok K C' f'
        · refine wp_aload_n d_Mo_one_145 rfl rfl ?_
          refine wp_ldc (v := .int (-1000000002)) d_Mo_one_146 ow_Mo_one (by decide +kernel) ?_
          refine wp_invV d_Mo_one_148 ow_Mo_one lk_8_59 (by decide) mi_Mo_errs rfl rfl (Nat.le_of_ble_eq_true rfl) rfl (wp_isC (O_91 _)) (show h_Mo_errs ≤ _ from by decide) (m_errs _ 2 (by decide) (by decide) ?_)
          refine wp_Ki ?_
          refine wp_reti d_Mo_one_151 rt_Mo_one ?_
          rw [sp_if_t h142] at K
          exact lf_i (by decide) (mQ_er (e := 2) K (by decide) C' f')) 4 0 _ none (Nat.zero_add _) c0 t0 f0
      rw [e0] at st
      refine cl_in ml_Mo_one rfl rfl ?_
      refine wp_iload_n d_Mo_one_0 rfl rfl ?_
      refine wp_invS d_Mo_one_1 ow_Mo_one lk_8_214 (by decide) mi_Mo_isSheet rfl rfl (Nat.le_of_ble_eq_true rfl) rfl (show h_Mo_isSheet ≤ _ from by decide) (m_isSheet _ ?_)
      refine wp_Ki ?_
      refine wp_ifB_eq (pc' := 16) d_Mo_one_4 (by decide) (fun h4 => absurd h.1 h4) (fun h4 => ?_)
      refine wp_iload_n d_Mo_one_7 rfl rfl ?_
      refine wp_iconst (x := nI 0) d_Mo_one_8 rfl ?_
      refine wp_iconst (x := nI 1) d_Mo_one_9 rfl ?_
      refine wp_invS d_Mo_one_10 ow_Mo_one lk_8_54 (by decide) mi_Mo_in rfl rfl (Nat.le_of_ble_eq_true rfl) rfl (show h_Mo_in ≤ _ from by decide) (m_in _ _ _ ?_)
      refine wp_Ki ?_
      refine wp_ifB_ne (pc' := 23) d_Mo_one_13 (by decide) (fun h13 => ?_) (fun h13 => absurd h.2 h13)
      refine wp_aload_n d_Mo_one_23 rfl rfl ?_
      refine wp_getR d_Mo_one_24 ow_Mo_one fl_8_38 (O_91 _) rfl ?_
      refine wp_iload_n d_Mo_one_27 rfl rfl ?_
      refine wp_iaload d_Mo_one_28 (A_100 _) (by omega) (by decide) (rfl) ?_
      refine wp_if_ne (pc' := 39) d_Mo_one_29 (by decide) (fun h29 => ?_) (fun h29 => absurd h29 hb)
      refine wp_iconst (x := -1) d_Mo_one_39 rfl ?_
      refine wp_iston3 d_Mo_one_40 rfl ?_
      refine wp_iconst (x := nI 0) d_Mo_one_41 rfl ?_
      refine wp_isto4 d_Mo_one_42 rfl ?_
      refine wp_aload_n d_Mo_one_44 rfl rfl ?_
      refine wp_aload_n d_Mo_one_45 rfl rfl ?_
      refine wp_getR d_Mo_one_46 ow_Mo_one fl_8_7 (O_91 _) rfl ?_
      refine wp_aload_n d_Mo_one_49 rfl rfl ?_
      refine wp_getR d_Mo_one_50 ow_Mo_one fl_8_16 (O_91 _) rfl ?_
      refine wp_invV d_Mo_one_53 ow_Mo_one lk_8_197 (by decide) mi_Mo_moveAll rfl rfl (Nat.le_of_ble_eq_true rfl) rfl (wp_isC (O_91 _)) (show h_Mo_moveAll ≤ _ from by decide) (m_moveAll (a := 92) (b := 94) (by decide) A_92 A_94 ?_)
      refine wp_Kv ?_
      refine wp_iconst (x := nI 0) d_Mo_one_56 rfl ?_
      refine wp_isto5 d_Mo_one_57 rfl ?_
      exact st
  · rw [sp_if_f h] at K
    refine cl_in ml_Mo_one rfl rfl ?_
    refine wp_iload_n d_Mo_one_0 rfl rfl ?_
    refine wp_invS d_Mo_one_1 ow_Mo_one lk_8_214 (by decide) mi_Mo_isSheet rfl rfl (Nat.le_of_ble_eq_true rfl) rfl (show h_Mo_isSheet ≤ _ from by decide) (m_isSheet _ ?_)
    refine wp_Ki ?_
    refine wp_ifB_eq (pc' := 16) d_Mo_one_4 (by decide) (fun h4 => ?_) (fun h4 => ?_)
    · refine wp_aload_n d_Mo_one_16 rfl rfl ?_
      refine wp_ldc (v := .int (-1000000001)) d_Mo_one_17 ow_Mo_one (by decide +kernel) ?_
      refine wp_invV d_Mo_one_19 ow_Mo_one lk_8_59 (by decide) mi_Mo_errs rfl rfl (Nat.le_of_ble_eq_true rfl) rfl (wp_isC (O_91 _)) (show h_Mo_errs ≤ _ from by decide) (m_errs _ 1 (by decide) (by decide) ?_)
      refine wp_Ki ?_
      refine wp_reti d_Mo_one_22 rt_Mo_one ?_
      exact lf_i (by decide) (mQ_er (e := 1) K (by decide) C fr.rf)
    · refine wp_iload_n d_Mo_one_7 rfl rfl ?_
      refine wp_iconst (x := nI 0) d_Mo_one_8 rfl ?_
      refine wp_iconst (x := nI 1) d_Mo_one_9 rfl ?_
      refine wp_invS d_Mo_one_10 ow_Mo_one lk_8_54 (by decide) mi_Mo_in rfl rfl (Nat.le_of_ble_eq_true rfl) rfl (show h_Mo_in ≤ _ from by decide) (m_in _ _ _ ?_)
      refine wp_Ki ?_
      refine wp_ifB_ne (pc' := 23) d_Mo_one_13 (by decide) (fun h13 => absurd ⟨h4, h13⟩ h) (fun h13 => ?_)
      refine wp_aload_n d_Mo_one_16 rfl rfl ?_
      refine wp_ldc (v := .int (-1000000001)) d_Mo_one_17 ow_Mo_one (by decide +kernel) ?_
      refine wp_invV d_Mo_one_19 ow_Mo_one lk_8_59 (by decide) mi_Mo_errs rfl rfl (Nat.le_of_ble_eq_true rfl) rfl (wp_isC (O_91 _)) (show h_Mo_errs ≤ _ from by decide) (m_errs _ 1 (by decide) (by decide) ?_)
      refine wp_Ki ?_
      refine wp_reti d_Mo_one_22 rt_Mo_one ?_
      exact lf_i (by decide) (mQ_er (e := 1) K (by decide) C fr.rf)
end ON2
