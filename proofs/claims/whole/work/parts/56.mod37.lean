/-! the reference: two runners by turns -/
noncomputable def sp_bl (v : Nat → Int32) : Nat → Int32
  | 0 => nI 0
  | i + 1 => sp_if (i = 0 ∨ sp_bl v i < v i) (v i) (sp_bl v i)
theorem sp_bl_0 (v : Nat → Int32) : sp_bl v 0 = nI 0 := by rw [sp_bl]
theorem sp_bl_s (v : Nat → Int32) (i : Nat) : sp_bl v (i + 1) = sp_if (i = 0 ∨ sp_bl v i < v i) (v i) (sp_bl v i) := by rw [sp_bl]
noncomputable def sp_bt : Nat → Nat → Nat → sp_R → Int32
  | 0, _, _, _ => nI 0
  | l + 1, o, p, q => sp_bl (fun i => sp_if (l = 0) (sp_acres (sp_hr q o i) (-1) (nI o) (sp_n (sp_hr q o i)) - sp_acres (sp_hr q o i) (-1) (nI p) (sp_n (sp_hr q o i))) (-(sp_bt l p o (sp_hr q o i)))) (min (sp_n q) 5)
noncomputable def sp_bv (l o p : Nat) (q : sp_R) (i : Nat) : Int32 := sp_if (l = 0) (sp_acres (sp_hr q o i) (-1) (nI o) (sp_n (sp_hr q o i)) - sp_acres (sp_hr q o i) (-1) (nI p) (sp_n (sp_hr q o i))) (-(sp_bt l p o (sp_hr q o i)))
theorem sp_bt_0 (o p : Nat) (q : sp_R) : sp_bt 0 o p q = nI 0 := by rw [sp_bt]
theorem sp_bt_s (l o p : Nat) (q : sp_R) : sp_bt (l + 1) o p q = sp_bl (sp_bv l o p q) (min (sp_n q) 5) := by
  rw [sp_bt]
  rfl
def mB (l k j : Nat) : Prop := (k = 92 ∧ j < 283) ∨ ps_D k j ∨ (k = 99 ∧ j < 283 * (l + 1))
def mBs (S : wp_S) (L : Nat) (q : sp_R) : Prop := ∀ j, j < 283 → S.2 99 (283 * L + j) = q j
theorem wp_un {S : wp_S} {k j a b : Nat} {x : Int32} (h : ¬ (a = k ∧ b = j)) : (wp_u S k j x).2 a b = S.2 a b := if_neg h
section OB
variable {S : wp_S} {q : sp_R} {mu : Int32} {Q : Option Value → wp_S → Prop}
theorem m_bs {d : Nat} (o p : Int32) (L : Nat) (hL : 1 ≤ L ∧ L ≤ 4) (l5 l6 l7 : Option Value) (K : ∀ S', mC S' q (-1) → mBs S' L q → fr (mB L) S S' → wp d y_Mo_byTurns 43 [some (.ref 91), some (.int o), some (.int p), some (.int (nI L)), some (.int (nI 283)), l5, l6, l7] [] S' Q) : ∀ m k (S' : wp_S), k + m = 283 → mC S' q (-1) → (∀ j, j < k → S'.2 99 (283 * L + j) = q j) → fr (mB L) S S' → wp d y_Mo_byTurns 9 [some (.ref 91), some (.int o), some (.int p), some (.int (nI L)), some (.int (nI k)), l5, l6, l7] [] S' Q := by
  intro m
  induction m with
  | zero =>
    intro k S' hk C h fS
    obtain rfl : k = 283 := by omega
    refine wp_iload d_Mo_byTurns_9 rfl ?_
    refine wp_sipush (x := nI 283) d_Mo_byTurns_11 (by decide) ?_
    refine wp_icN_ge (pc' := 43) d_Mo_byTurns_14 (by decide) (by omega) (by omega) (fun _ => ?_) (fun q => absurd q (by decide))
    exact K S' C h fS
  | succ m ih =>
    intro k S' hk C h fS
    refine wp_iload d_Mo_byTurns_9 rfl ?_
    refine wp_sipush (x := nI 283) d_Mo_byTurns_11 (by decide) ?_
    refine wp_icN_ge (pc' := 43) d_Mo_byTurns_14 (by decide) (by omega) (by omega) (fun h14 => absurd h14 (by omega)) (fun h14 => ?_)
    refine wp_aload_n d_Mo_byTurns_17 rfl rfl ?_
    refine wp_getR d_Mo_byTurns_18 ow_Mo_byTurns fl_8_35 (O_91 _) rfl ?_
    refine wp_sipush (x := nI 283) d_Mo_byTurns_21 (by decide) ?_
    refine wp_iload_n d_Mo_byTurns_24 rfl rfl ?_
    refine wp_imul d_Mo_byTurns_25 (pk_mul _ _) ?_
    refine wp_iload d_Mo_byTurns_26 rfl ?_
    refine wp_iadd d_Mo_byTurns_28 (nI_add _ _) ?_
    refine wp_aload_n d_Mo_byTurns_29 rfl rfl ?_
    refine wp_getR d_Mo_byTurns_30 ow_Mo_byTurns fl_8_7 (O_91 _) rfl ?_
    refine wp_iload d_Mo_byTurns_33 rfl ?_
    refine wp_iaload d_Mo_byTurns_35 (A_92 _) (by omega) (by decide) (congrFun C.1 k) ?_
    refine wp_iastore d_Mo_byTurns_36 (A_99 _) (by omega) (by decide) ?_
    refine wp_iinc4 d_Mo_byTurns_37 rfl (nI_add _ 1) ?_
    refine wp_goto (pc' := 9) d_Mo_byTurns_40 (by decide) ?_
    refine ih (k + 1) _ (by omega) (mC_o C (by decide) _ _) (fun j hj => ?_) (fS.up (Or.inr (Or.inr ⟨rfl, by omega⟩)))
    rw [wp_u2]
    by_cases hjk : j = k
    · rw [if_pos ⟨rfl, by rw [hjk]⟩, hjk]
    · rw [if_neg (fun z => hjk (by omega))]
      exact h j (by omega)
theorem m_br {d : Nat} (o p b x : Int32) (L i : Nat) (hL : 1 ≤ L ∧ L ≤ 4) (K : ∀ S', mC S' q (-1) → mBs S' L q → fr (mB L) S S' → wp d y_Mo_byTurns 162 [some (.ref 91), some (.int o), some (.int p), some (.int (nI L)), some (.int b), some (.int (nI i)), some (.int x), some (.int (nI 283))] [] S' Q) : ∀ m k (S' : wp_S), k + m = 283 → (∀ j, j < k ∨ 283 ≤ j → S'.2 92 j = q j) → S'.2 91 7 = -1 → mBs S' L q → fr (mB L) S S' → wp d y_Mo_byTurns 128 [some (.ref 91), some (.int o), some (.int p), some (.int (nI L)), some (.int b), some (.int (nI i)), some (.int x), some (.int (nI k))] [] S' Q := by
  intro m
  induction m with
  | zero =>
    intro k S' hk h1 h2 h3 fS
    obtain rfl : k = 283 := by omega
    refine wp_iload d_Mo_byTurns_128 rfl ?_
    refine wp_sipush (x := nI 283) d_Mo_byTurns_130 (by decide) ?_
    refine wp_icN_ge (pc' := 162) d_Mo_byTurns_133 (by decide) (by omega) (by omega) (fun _ => ?_) (fun q => absurd q (by decide))
    exact K S' ⟨funext fun j => h1 j (by omega), h2⟩ h3 fS
  | succ m ih =>
    intro k S' hk h1 h2 h3 fS
    refine wp_iload d_Mo_byTurns_128 rfl ?_
    refine wp_sipush (x := nI 283) d_Mo_byTurns_130 (by decide) ?_
    refine wp_icN_ge (pc' := 162) d_Mo_byTurns_133 (by decide) (by omega) (by omega) (fun h133 => absurd h133 (by omega)) (fun h133 => ?_)
    refine wp_aload_n d_Mo_byTurns_136 rfl rfl ?_
    refine wp_getR d_Mo_byTurns_137 ow_Mo_byTurns fl_8_7 (O_91 _) rfl ?_
    refine wp_iload d_Mo_byTurns_140 rfl ?_
    refine wp_aload_n d_Mo_byTurns_142 rfl rfl ?_
    refine wp_getR d_Mo_byTurns_143 ow_Mo_byTurns fl_8_35 (O_91 _) rfl ?_
    refine wp_sipush (x := nI 283) d_Mo_byTurns_146 (by decide) ?_
    refine wp_iload_n d_Mo_byTurns_149 rfl rfl ?_
    refine wp_imul d_Mo_byTurns_150 (pk_mul _ _) ?_
    refine wp_iload d_Mo_byTurns_151 rfl ?_
    refine wp_iadd d_Mo_byTurns_153 (nI_add _ _) ?_
    refine wp_iaload d_Mo_byTurns_154 (A_99 _) (by omega) (by decide) (h3 k (by omega)) ?_
    refine wp_iastore d_Mo_byTurns_155 (A_92 _) (by omega) (by decide) ?_
    refine wp_iinc7 d_Mo_byTurns_156 rfl (nI_add _ 1) ?_
    refine wp_goto (pc' := 128) d_Mo_byTurns_159 (by decide) ?_
    refine ih (k + 1) _ (by omega) (fun j hj => ?_) ((wp_un (by omega)).trans h2) (fun j hj => (wp_un (by omega)).trans (h3 j hj)) (fS.up (Or.inl ⟨rfl, by omega⟩))
    rw [wp_u2]
    by_cases hjk : j = k
    · rw [if_pos ⟨rfl, hjk⟩, hjk]
    · rw [if_neg (fun z => hjk z.2)]
      exact h1 j (by omega)
theorem m_b102 {d : Nat} (o p b x r : Int32) (L i : Nat) (hL : 1 ≤ L ∧ L ≤ 4) (hi : i < 10) (l6 l7 : Option Value) (S3 : wp_S) (hr : r = sp_if (i = 0 ∨ b < x) x b) (h1 : ∀ j, 283 ≤ j → S3.2 92 j = q j) (h2 : S3.2 91 7 = -1) (h3 : mBs S3 L q) (f3 : fr (mB L) S S3) (K : ∀ S', mC S' q (-1) → mBs S' L q → fr (mB L) S S' → wp d y_Mo_byTurns 49 [some (.ref 91), some (.int o), some (.int p), some (.int (nI L)), some (.int r), some (.int (nI (i + 1))), some (.int x), some (.int (nI 283))] [] S' Q) : wp d y_Mo_byTurns 102 [some (.ref 91), some (.int o), some (.int p), some (.int (nI L)), some (.int b), some (.int (nI i)), l6, l7] [.int x] S3 Q := by
  have fin : ∀ S', mC S' q (-1) → mBs S' L q → fr (mB L) S S' → wp d y_Mo_byTurns 162 [some (.ref 91), some (.int o), some (.int p), some (.int (nI L)), some (.int r), some (.int (nI i)), some (.int x), some (.int (nI 283))] [] S' Q := by
    intro S' C' s' f'
    refine wp_iinc5 d_Mo_byTurns_162 rfl (nI_add _ 1) ?_
    refine wp_goto (pc' := 49) d_Mo_byTurns_165 (by decide) ?_
    exact K S' C' s' f'
  refine wp_isto6 d_Mo_byTurns_102 rfl ?_
  refine wp_iload d_Mo_byTurns_104 rfl ?_
  refine wp_ifN_eq (pc' := 116) d_Mo_byTurns_106 (by decide) (by omega) (fun h106 => ?_) (fun h106 => ?_)
  · refine wp_iload d_Mo_byTurns_116 rfl ?_
    refine wp_goto (pc' := 123) d_Mo_byTurns_118 (by decide) ?_
    refine wp_isto4 d_Mo_byTurns_123 rfl ?_
    refine wp_iconst (x := nI 0) d_Mo_byTurns_125 rfl ?_
    refine wp_isto7 d_Mo_byTurns_126 rfl ?_
    first
    | (rw [sp_if_t (Or.inl h106)] at hr
       subst hr
       exact m_br (S := S) o p _ _ L i hL fin 283 0 S3 (Nat.zero_add _) (fun j hj => h1 j (by omega)) h2 h3 f3)
    | (rw [sp_if_t (Or.inr (Int32.not_le.mp h113))] at hr
       subst hr
       exact m_br (S := S) o p _ _ L i hL fin 283 0 S3 (Nat.zero_add _) (fun j hj => h1 j (by omega)) h2 h3 f3)
    | (rw [sp_if_f (fun z => z.elim h106 (fun z => absurd z (Int32.not_lt.mpr h113)))] at hr
       subst hr
       exact m_br (S := S) o p _ _ L i hL fin 283 0 S3 (Nat.zero_add _) (fun j hj => h1 j (by omega)) h2 h3 f3)
  · refine wp_iload d_Mo_byTurns_109 rfl ?_
    refine wp_iload d_Mo_byTurns_111 rfl ?_
    refine wp_ic_le (pc' := 121) d_Mo_byTurns_113 (by decide) (fun h113 => ?_) (fun h113 => ?_)
    · refine wp_iload d_Mo_byTurns_121 rfl ?_
      refine wp_isto4 d_Mo_byTurns_123 rfl ?_
      refine wp_iconst (x := nI 0) d_Mo_byTurns_125 rfl ?_
      refine wp_isto7 d_Mo_byTurns_126 rfl ?_
      first
      | (rw [sp_if_t (Or.inl h106)] at hr
         subst hr
         exact m_br (S := S) o p _ _ L i hL fin 283 0 S3 (Nat.zero_add _) (fun j hj => h1 j (by omega)) h2 h3 f3)
      | (rw [sp_if_t (Or.inr (Int32.not_le.mp h113))] at hr
         subst hr
         exact m_br (S := S) o p _ _ L i hL fin 283 0 S3 (Nat.zero_add _) (fun j hj => h1 j (by omega)) h2 h3 f3)
      | (rw [sp_if_f (fun z => z.elim h106 (fun z => absurd z (Int32.not_lt.mpr h113)))] at hr
         subst hr
         exact m_br (S := S) o p _ _ L i hL fin 283 0 S3 (Nat.zero_add _) (fun j hj => h1 j (by omega)) h2 h3 f3)
    · refine wp_iload d_Mo_byTurns_116 rfl ?_
      refine wp_goto (pc' := 123) d_Mo_byTurns_118 (by decide) ?_
      refine wp_isto4 d_Mo_byTurns_123 rfl ?_
      refine wp_iconst (x := nI 0) d_Mo_byTurns_125 rfl ?_
      refine wp_isto7 d_Mo_byTurns_126 rfl ?_
      first
      | (rw [sp_if_t (Or.inl h106)] at hr
         subst hr
         exact m_br (S := S) o p _ _ L i hL fin 283 0 S3 (Nat.zero_add _) (fun j hj => h1 j (by omega)) h2 h3 f3)
      | (rw [sp_if_t (Or.inr (Int32.not_le.mp h113))] at hr
         subst hr
         exact m_br (S := S) o p _ _ L i hL fin 283 0 S3 (Nat.zero_add _) (fun j hj => h1 j (by omega)) h2 h3 f3)
      | (rw [sp_if_f (fun z => z.elim h106 (fun z => absurd z (Int32.not_lt.mpr h113)))] at hr
         subst hr
         exact m_br (S := S) o p _ _ L i hL fin 283 0 S3 (Nat.zero_add _) (fun j hj => h1 j (by omega)) h2 h3 f3)
theorem lf_bl {P : Int32 → Prop} {a b : Int32} (e : a = b) (k : P a) : P b := by subst e; exact k
theorem m_bt_loop {d : Nat} (l o p : Nat) (hd : 64 ≤ d) (hl : l < 4) (ho : o < 4) (hw : sp_wf q) (IH : ∀ (S : wp_S) (q : sp_R) (Q : Option Value → wp_S → Prop), mC S q (-1) → sp_wf q → (∀ S', mC S' q (-1) → fr (mB l) S S' → Q (some (.int (sp_bt l p o q))) S') → cl d y_Mo_byTurns [.ref k_Mo, .int (nI p), .int (nI o), .int (nI l)] S Q) (K : ∀ S', mC S' q (-1) → fr (mB (l + 1)) S S' → Q (some (.int (sp_bl (sp_bv l o p q) (min (sp_n q) 5)))) S') : ∀ m i (S' : wp_S) (l6 l7 : Option Value), i + m = min (sp_n q) 5 → mC S' q (-1) → mBs S' (l + 1) q → fr (mB (l + 1)) S S' → wp d y_Mo_byTurns 49 [some (.ref 91), some (.int (nI o)), some (.int (nI p)), some (.int (nI (l + 1))), some (.int (sp_bl (sp_bv l o p q) i)), some (.int (nI i)), l6, l7] [] S' Q := by
  have hn := hw.n
  intro m
  induction m with
  | zero =>
    intro i S' l6 l7 hi C s fS
    obtain rfl : i = min (sp_n q) 5 := by omega
    refine wp_iload d_Mo_byTurns_49 rfl ?_
    refine wp_aload_n d_Mo_byTurns_51 rfl rfl ?_
    refine wp_getR d_Mo_byTurns_52 ow_Mo_byTurns fl_8_7 (O_91 _) rfl ?_
    refine wp_iconst (x := nI 0) d_Mo_byTurns_55 rfl ?_
    refine wp_iaload d_Mo_byTurns_56 (A_92 _) (by omega) (by decide) ((congrFun C.1 0).trans hn.2) ?_
    refine wp_icN_ge (pc' := 168) d_Mo_byTurns_57 (by decide) (by omega) (by omega) (fun h57 => ?_) (fun h57 => ?_)
    · refine wp_iload d_Mo_byTurns_168 rfl ?_
      refine wp_reti d_Mo_byTurns_170 rt_Mo_byTurns ?_
      exact K S' C fS
    · refine wp_iload d_Mo_byTurns_60 rfl ?_
      refine wp_iconst (x := nI 5) d_Mo_byTurns_62 rfl ?_
      refine wp_icN_ge (pc' := 168) d_Mo_byTurns_63 (by decide) (by omega) (by omega) (fun h63 => ?_) (fun h63 => absurd h63 (by omega))
      refine wp_iload d_Mo_byTurns_168 rfl ?_
      refine wp_reti d_Mo_byTurns_170 rt_Mo_byTurns ?_
      exact K S' C fS
  | succ m ih =>
    intro i S' l6 l7 hi C s fS
    have e := sp_bl_s (sp_bv l o p q) i
    have hrn := sp_hr_n q o i ho
    have K102 : ∀ S3, mC S3 (sp_hr q o i) (-1) → mBs S3 (l + 1) q → fr (mB (l + 1)) S S3 → wp d y_Mo_byTurns 102 [some (.ref 91), some (.int (nI o)), some (.int (nI p)), some (.int (nI (l + 1))), some (.int (sp_bl (sp_bv l o p q) i)), some (.int (nI i)), l6, l7] [.int (sp_bv l o p q i)] S3 Q := fun S3 C3 s3 f3 =>
      m_b102 (S := S) _ _ _ _ _ (l + 1) i (by omega) (by omega) l6 l7 S3 e (fun j hj => (congrFun C3.1 j).trans (sp_hr_ne q o i (Or.inr (by omega)) ho)) C3.2 s3 f3 (fun S4 C4 s4 f4 => ih (i + 1) S4 _ _ (by omega) C4 s4 f4)
    have sv : ∀ {S2 S3 : wp_S}, mBs S2 (l + 1) q → fr (mB l) S2 S3 → mBs S3 (l + 1) q := fun s f j hj => (f.2 99 _ (fun z => by unfold mB ps_D at z; omega)).trans (s j hj)
    have up : ∀ {S2 S3 : wp_S}, fr (mB l) S2 S3 → fr (mB (l + 1)) S2 S3 := fun f => f.mono (fun k j z => by
      rcases z with z | z | z
      · exact Or.inl z
      · exact Or.inr (Or.inl z)
      · exact Or.inr (Or.inr ⟨z.1, by omega⟩))
    have fR : ∀ {S2 S3 : wp_S}, fr mR S2 S3 → fr (mB l) S2 S3 := fun f => f.mono (fun _ _ z => Or.inl z)
    have fD : ∀ {S2 S3 : wp_S}, fr ps_D S2 S3 → fr (mB l) S2 S3 := fun f => f.mono (fun _ _ z => Or.inr (Or.inl z))
    refine wp_iload d_Mo_byTurns_49 rfl ?_
    refine wp_aload_n d_Mo_byTurns_51 rfl rfl ?_
    refine wp_getR d_Mo_byTurns_52 ow_Mo_byTurns fl_8_7 (O_91 _) rfl ?_
    refine wp_iconst (x := nI 0) d_Mo_byTurns_55 rfl ?_
    refine wp_iaload d_Mo_byTurns_56 (A_92 _) (by omega) (by decide) ((congrFun C.1 0).trans hn.2) ?_
    refine wp_icN_ge (pc' := 168) d_Mo_byTurns_57 (by decide) (by omega) (by omega) (fun h57 => absurd h57 (by omega)) (fun h57 => ?_)
    refine wp_iload d_Mo_byTurns_60 rfl ?_
    refine wp_iconst (x := nI 5) d_Mo_byTurns_62 rfl ?_
    refine wp_icN_ge (pc' := 168) d_Mo_byTurns_63 (by decide) (by omega) (by omega) (fun h63 => absurd h63 (by omega)) (fun h63 => ?_)
    refine wp_aload_n d_Mo_byTurns_66 rfl rfl ?_
    refine wp_iload_n d_Mo_byTurns_67 rfl rfl ?_
    refine wp_iload d_Mo_byTurns_68 rfl ?_
    refine wp_invV d_Mo_byTurns_70 ow_Mo_byTurns lk_8_113 (by decide) mi_Mo_hears rfl rfl (Nat.le_of_ble_eq_true rfl) rfl (wp_isC (O_91 _)) (Nat.le_trans (show h_Mo_hears ≤ 64 from by decide) hd) (m_hears C o i (by omega) ho (hw.f (by omega)) (fun S2 C2 f2 => ?_))
    refine wp_Kv ?_
    refine wp_iload_n d_Mo_byTurns_73 rfl rfl ?_
    refine wp_iconst (x := nI 1) d_Mo_byTurns_74 rfl ?_
    refine wp_icN_ne (pc' := 92) d_Mo_byTurns_75 (by decide) (by omega) (by omega) (fun h75 => ?_) (fun h75 => ?_)
    · refine wp_aload_n d_Mo_byTurns_92 rfl rfl ?_
      refine wp_iload_n d_Mo_byTurns_93 rfl rfl ?_
      refine wp_iload_n d_Mo_byTurns_94 rfl rfl ?_
      refine wp_iload_n d_Mo_byTurns_95 rfl rfl ?_
      refine wp_iconst (x := nI 1) d_Mo_byTurns_96 rfl ?_
      refine wp_isub d_Mo_byTurns_97 ((pk_sub (show 1 ≤ l + 1 by omega)).trans (congrArg nI (show l + 1 - 1 = l by omega))) ?_
      refine wp_invV d_Mo_byTurns_98 ow_Mo_byTurns lk_8_211 (by decide) mi_Mo_byTurns rfl rfl (Nat.le_of_ble_eq_true rfl) rfl (wp_isC (O_91 _)) (Nat.le_refl _) (IH S2 _ _ C2 (sp_hr_wf hw (by omega) ho) (fun S3 C3 f3 => ?_))
      refine wp_Ki ?_
      refine wp_ineg d_Mo_byTurns_101 (rfl) ?_
      first
      | exact (show sp_bv l o p q i = _ from sp_if_t (by omega)) ▸ K102 S4 ((C2.fr f3).fr f4) (sv (sv (sv s (fR f2)) (fD f3)) (fD f4)) (((fS.tr (up (fR f2))).tr (up (fD f3))).tr (up (fD f4)))
      | exact (show sp_bv l o p q i = _ from sp_if_f (by omega)) ▸ K102 S3 C3 (sv (sv s (fR f2)) f3) ((fS.tr (up (fR f2))).tr (up f3))
    · refine wp_aload_n d_Mo_byTurns_78 rfl rfl ?_
      refine wp_iload_n d_Mo_byTurns_79 rfl rfl ?_
      refine wp_invV d_Mo_byTurns_80 ow_Mo_byTurns lk_8_103 (by decide) mi_Mo_acresOf rfl rfl (Nat.le_of_ble_eq_true rfl) rfl (wp_isC (O_91 _)) (Nat.le_trans (show h_Mo_acresOf ≤ 64 from by decide) hd) (m_acresOf C2 (sp_hr_wf hw (by omega) ho) (nI o) (fun S3 f3 => ?_))
      refine wp_Ki ?_
      refine wp_aload_n d_Mo_byTurns_83 rfl rfl ?_
      refine wp_iload_n d_Mo_byTurns_84 rfl rfl ?_
      refine wp_invV d_Mo_byTurns_85 ow_Mo_byTurns lk_8_103 (by decide) mi_Mo_acresOf rfl rfl (Nat.le_of_ble_eq_true rfl) rfl (wp_isC (O_91 _)) (Nat.le_trans (show h_Mo_acresOf ≤ 64 from by decide) hd) (m_acresOf (C2.fr f3) (sp_hr_wf hw (by omega) ho) (nI p) (fun S4 f4 => ?_))
      refine wp_Ki ?_
      refine wp_isub d_Mo_byTurns_88 rfl ?_
      refine wp_goto (pc' := 102) d_Mo_byTurns_89 (by decide) ?_
      first
      | exact (show sp_bv l o p q i = _ from sp_if_t (by omega)) ▸ K102 S4 ((C2.fr f3).fr f4) (sv (sv (sv s (fR f2)) (fD f3)) (fD f4)) (((fS.tr (up (fR f2))).tr (up (fD f3))).tr (up (fD f4)))
      | exact (show sp_bv l o p q i = _ from sp_if_f (by omega)) ▸ K102 S3 C3 (sv (sv s (fR f2)) f3) ((fS.tr (up (fR f2))).tr (up f3))
theorem m_byTurns : ∀ (l o p d : Nat) (S : wp_S) (q : sp_R) (Q : Option Value → wp_S → Prop), l ≤ 4 → o < 4 → p < 4 → 64 + l ≤ d → mC S q (-1) → sp_wf q → (∀ S', mC S' q (-1) → fr (mB l) S S' → Q (some (.int (sp_bt l o p q))) S') → cl (d + 1) y_Mo_byTurns [.ref k_Mo, .int (nI o), .int (nI p), .int (nI l)] S Q := by
  intro l
  induction l with
  | zero =>
    intro o p d S q Q hl ho hp hd C hw K
    rw [sp_bt_0] at K
    refine cl_in ml_Mo_byTurns rfl rfl ?_
    refine wp_iload_n d_Mo_byTurns_0 rfl rfl ?_
    refine wp_ifN_ne (pc' := 6) d_Mo_byTurns_1 (by decide) (by omega) (fun q => absurd q (by decide)) (fun _ => ?_)
    refine wp_iconst (x := nI 0) d_Mo_byTurns_4 rfl ?_
    refine wp_reti d_Mo_byTurns_5 rt_Mo_byTurns ?_
    exact K S C fr.rf
  | succ l ih =>
    intro o p d S q Q hl ho hp hd C hw K
    rw [sp_bt_s] at K
    obtain ⟨d, rfl⟩ : ∃ e, d = e + 1 := ⟨d - 1, by omega⟩
    refine cl_in ml_Mo_byTurns rfl rfl ?_
    refine wp_iload_n d_Mo_byTurns_0 rfl rfl ?_
    refine wp_ifN_ne (pc' := 6) d_Mo_byTurns_1 (by decide) (by omega) (fun h1 => ?_) (fun h1 => absurd h1 (by omega))
    refine wp_iconst (x := nI 0) d_Mo_byTurns_6 rfl ?_
    refine wp_isto4 d_Mo_byTurns_7 rfl ?_
    refine m_bs (S := S) _ _ (l + 1) (by omega) _ _ _ (fun S' C' s' f' => ?_) 283 0 S (Nat.zero_add _) C (fun j hj => by omega) fr.rf
    refine wp_iconst (x := nI 0) d_Mo_byTurns_43 rfl ?_
    refine wp_isto4 d_Mo_byTurns_44 rfl ?_
    refine wp_iconst (x := nI 0) d_Mo_byTurns_46 rfl ?_
    refine wp_isto5 d_Mo_byTurns_47 rfl ?_
    refine lf_bl (P := fun b => wp (d + 1) y_Mo_byTurns 49 [some (.ref 91), some (.int (nI o)), some (.int (nI p)), some (.int (nI (l + 1))), some (.int b), some (.int (nI 0)), _, _] [] S' Q) (sp_bl_0 (sp_bv l o p q)) (m_bt_loop (S := S) l o p (by omega) (by omega) ho hw (fun S q Q C hw K => ih p o d S q Q (by omega) hp ho (by omega) C hw K) K (min (sp_n q) 5) 0 S' _ _ (Nat.zero_add _) C' s' f')
noncomputable def op_turns (q : sp_R) (o p n : Int32) : sp_Out := sp_if (sp_isW o 3 ∧ sp_isW p 3 ∧ o ≠ p ∧ sp_isW n 4) (sp_if (q 0 = 0) (sp_bad q 3) (0, sp_if (n = 0) (sp_acres q (-1) o (sp_n q) - sp_acres q (-1) p (sp_n q)) (sp_bt n.toNatClampNeg o.toNatClampNeg p.toNatClampNeg q), q)) (sp_bad q 1)
theorem fr_YB {S S' : wp_S} {l : Nat} (h : fr (mB l) S S') : fr mY S S' := h.mono (fun _ _ z => by
  rcases z with z | z | z
  · exact Or.inl z
  · exact Or.inr (Or.inr (Or.inr (Or.inr (Or.inr (Or.inr (Or.inr (Or.inl z)))))))
  · exact Or.inr (Or.inr (Or.inr (Or.inr (Or.inr (Or.inl z.1))))))
theorem m_turns (C : mC S q (-1)) (hw : sp_wf q) (o p n : Int32) (K : mQ S (op_turns q o p n) Q) : cl h_Mo_turns y_Mo_turns [.ref k_Mo, .int o, .int p, .int n] S Q := by
  have hn := hw.n
  unfold op_turns at K
  by_cases h : sp_isW o 3 ∧ sp_isW p 3 ∧ o ≠ p ∧ sp_isW n 4
  · rw [sp_if_t h] at K
    by_cases h0 : q 0 = 0
    · rw [sp_if_t h0] at K
      refine cl_in ml_Mo_turns rfl rfl ?_
      refine wp_iload_n d_Mo_turns_0 rfl rfl ?_
      refine wp_invS d_Mo_turns_1 ow_Mo_turns lk_8_100 (by decide) mi_Mo_isOwner rfl rfl (Nat.le_of_ble_eq_true rfl) rfl (show h_Mo_isOwner ≤ _ from by decide) (m_isOwner _ ?_)
      refine wp_Ki ?_
      refine wp_ifB_eq (pc' := 28) d_Mo_turns_4 (by decide) (fun h4 => absurd h.1 h4) (fun h4 => ?_)
      refine wp_iload_n d_Mo_turns_7 rfl rfl ?_
      refine wp_invS d_Mo_turns_8 ow_Mo_turns lk_8_100 (by decide) mi_Mo_isOwner rfl rfl (Nat.le_of_ble_eq_true rfl) rfl (show h_Mo_isOwner ≤ _ from by decide) (m_isOwner _ ?_)
      refine wp_Ki ?_
      refine wp_ifB_eq (pc' := 28) d_Mo_turns_11 (by decide) (fun h11 => absurd h.2.1 h11) (fun h11 => ?_)
      refine wp_iload_n d_Mo_turns_14 rfl rfl ?_
      refine wp_iload_n d_Mo_turns_15 rfl rfl ?_
      refine wp_ic_eq (pc' := 28) d_Mo_turns_16 (by decide) (fun h16 => absurd h16 h.2.2.1) (fun h16 => ?_)
      refine wp_iload_n d_Mo_turns_19 rfl rfl ?_
      refine wp_iconst (x := nI 0) d_Mo_turns_20 rfl ?_
      refine wp_iconst (x := nI 4) d_Mo_turns_21 rfl ?_
      refine wp_invS d_Mo_turns_22 ow_Mo_turns lk_8_54 (by decide) mi_Mo_in rfl rfl (Nat.le_of_ble_eq_true rfl) rfl (show h_Mo_in ≤ _ from by decide) (m_in _ _ _ ?_)
      refine wp_Ki ?_
      refine wp_ifB_ne (pc' := 35) d_Mo_turns_25 (by decide) (fun h25 => ?_) (fun h25 => absurd h.2.2.2 h25)
      refine wp_aload_n d_Mo_turns_35 rfl rfl ?_
      refine wp_getR d_Mo_turns_36 ow_Mo_turns fl_8_7 (O_91 _) rfl ?_
      refine wp_iconst (x := nI 0) d_Mo_turns_39 rfl ?_
      refine wp_iaload d_Mo_turns_40 (A_92 _) (by omega) (by decide) (congrFun C.1 0) ?_
      refine wp_if_ne (pc' := 51) d_Mo_turns_41 (by decide) (fun h41 => absurd h0 h41) (fun h41 => ?_)
      refine wp_aload_n d_Mo_turns_44 rfl rfl ?_
      refine wp_ldc (v := .int (-1000000003)) d_Mo_turns_45 ow_Mo_turns (by decide +kernel) ?_
      refine wp_invV d_Mo_turns_47 ow_Mo_turns lk_8_59 (by decide) mi_Mo_errs rfl rfl (Nat.le_of_ble_eq_true rfl) rfl (wp_isC (O_91 _)) (show h_Mo_errs ≤ _ from by decide) (m_errs _ 3 (by decide) (by decide) ?_)
      refine wp_Ki ?_
      refine wp_reti d_Mo_turns_50 rt_Mo_turns ?_
      exact lf_i (by decide) (mQ_er (e := 3) K (by decide) C fr.rf)
    · rw [sp_if_f h0] at K
      by_cases hz : n = 0
      · rw [sp_if_t hz] at K
        refine cl_in ml_Mo_turns rfl rfl ?_
        refine wp_iload_n d_Mo_turns_0 rfl rfl ?_
        refine wp_invS d_Mo_turns_1 ow_Mo_turns lk_8_100 (by decide) mi_Mo_isOwner rfl rfl (Nat.le_of_ble_eq_true rfl) rfl (show h_Mo_isOwner ≤ _ from by decide) (m_isOwner _ ?_)
        refine wp_Ki ?_
        refine wp_ifB_eq (pc' := 28) d_Mo_turns_4 (by decide) (fun h4 => absurd h.1 h4) (fun h4 => ?_)
        refine wp_iload_n d_Mo_turns_7 rfl rfl ?_
        refine wp_invS d_Mo_turns_8 ow_Mo_turns lk_8_100 (by decide) mi_Mo_isOwner rfl rfl (Nat.le_of_ble_eq_true rfl) rfl (show h_Mo_isOwner ≤ _ from by decide) (m_isOwner _ ?_)
        refine wp_Ki ?_
        refine wp_ifB_eq (pc' := 28) d_Mo_turns_11 (by decide) (fun h11 => absurd h.2.1 h11) (fun h11 => ?_)
        refine wp_iload_n d_Mo_turns_14 rfl rfl ?_
        refine wp_iload_n d_Mo_turns_15 rfl rfl ?_
        refine wp_ic_eq (pc' := 28) d_Mo_turns_16 (by decide) (fun h16 => absurd h16 h.2.2.1) (fun h16 => ?_)
        refine wp_iload_n d_Mo_turns_19 rfl rfl ?_
        refine wp_iconst (x := nI 0) d_Mo_turns_20 rfl ?_
        refine wp_iconst (x := nI 4) d_Mo_turns_21 rfl ?_
        refine wp_invS d_Mo_turns_22 ow_Mo_turns lk_8_54 (by decide) mi_Mo_in rfl rfl (Nat.le_of_ble_eq_true rfl) rfl (show h_Mo_in ≤ _ from by decide) (m_in _ _ _ ?_)
        refine wp_Ki ?_
        refine wp_ifB_ne (pc' := 35) d_Mo_turns_25 (by decide) (fun h25 => ?_) (fun h25 => absurd h.2.2.2 h25)
        refine wp_aload_n d_Mo_turns_35 rfl rfl ?_
        refine wp_getR d_Mo_turns_36 ow_Mo_turns fl_8_7 (O_91 _) rfl ?_
        refine wp_iconst (x := nI 0) d_Mo_turns_39 rfl ?_
        refine wp_iaload d_Mo_turns_40 (A_92 _) (by omega) (by decide) (congrFun C.1 0) ?_
        refine wp_if_ne (pc' := 51) d_Mo_turns_41 (by decide) (fun h41 => ?_) (fun h41 => absurd h41 h0)
        refine wp_iload_n d_Mo_turns_51 rfl rfl ?_
        refine wp_if_ne (pc' := 69) d_Mo_turns_52 (by decide) (fun h52 => absurd hz h52) (fun h52 => ?_)
        refine wp_aload_n d_Mo_turns_55 rfl rfl ?_
        refine wp_iload_n d_Mo_turns_56 rfl rfl ?_
        refine wp_invV d_Mo_turns_57 ow_Mo_turns lk_8_103 (by decide) mi_Mo_acresOf rfl rfl (Nat.le_of_ble_eq_true rfl) rfl (wp_isC (O_91 _)) (show h_Mo_acresOf ≤ _ from by decide) (m_acresOf C hw o (fun S3 f3 => ?_))
        refine wp_Ki ?_
        refine wp_aload_n d_Mo_turns_60 rfl rfl ?_
        refine wp_iload_n d_Mo_turns_61 rfl rfl ?_
        refine wp_invV d_Mo_turns_62 ow_Mo_turns lk_8_103 (by decide) mi_Mo_acresOf rfl rfl (Nat.le_of_ble_eq_true rfl) rfl (wp_isC (O_91 _)) (show h_Mo_acresOf ≤ _ from by decide) (m_acresOf (C.fr f3) hw p (fun S4 f4 => ?_))
        refine wp_Ki ?_
        refine wp_isub d_Mo_turns_65 rfl ?_
        refine wp_goto (pc' := 76) d_Mo_turns_66 (by decide) ?_
        refine wp_reti d_Mo_turns_76 rt_Mo_turns ?_
        exact mQ_ok K ((C.fr f3).fr f4) ((fr_YD f3).tr (fr_YD f4))
      · rw [sp_if_f hz] at K
        have hpo := h.2.2.1
        obtain ⟨h1, h2, -, h4⟩ := h
        obtain ⟨o', ho, rfl⟩ := (i_in (by decide)).mp h1
        obtain ⟨p', hp, rfl⟩ := (i_in (by decide)).mp h2
        obtain ⟨n', hn', rfl⟩ := (i_in (by decide)).mp h4
        rw [nI_clamp (by omega), nI_clamp (by omega), nI_clamp (by omega)] at K
        refine cl_in ml_Mo_turns rfl rfl ?_
        refine wp_iload_n d_Mo_turns_0 rfl rfl ?_
        refine wp_invS d_Mo_turns_1 ow_Mo_turns lk_8_100 (by decide) mi_Mo_isOwner rfl rfl (Nat.le_of_ble_eq_true rfl) rfl (show h_Mo_isOwner ≤ _ from by decide) (m_isOwner _ ?_)
        refine wp_Ki ?_
        refine wp_ifB_eq (pc' := 28) d_Mo_turns_4 (by decide) (fun h4 => absurd h1 h4) (fun h4 => ?_)
        refine wp_iload_n d_Mo_turns_7 rfl rfl ?_
        refine wp_invS d_Mo_turns_8 ow_Mo_turns lk_8_100 (by decide) mi_Mo_isOwner rfl rfl (Nat.le_of_ble_eq_true rfl) rfl (show h_Mo_isOwner ≤ _ from by decide) (m_isOwner _ ?_)
        refine wp_Ki ?_
        refine wp_ifB_eq (pc' := 28) d_Mo_turns_11 (by decide) (fun h11 => absurd h2 h11) (fun h11 => ?_)
        refine wp_iload_n d_Mo_turns_14 rfl rfl ?_
        refine wp_iload_n d_Mo_turns_15 rfl rfl ?_
        refine wp_ic_eq (pc' := 28) d_Mo_turns_16 (by decide) (fun h16 => absurd h16 hpo) (fun h16 => ?_)
        refine wp_iload_n d_Mo_turns_19 rfl rfl ?_
        refine wp_iconst (x := nI 0) d_Mo_turns_20 rfl ?_
        refine wp_iconst (x := nI 4) d_Mo_turns_21 rfl ?_
        refine wp_invS d_Mo_turns_22 ow_Mo_turns lk_8_54 (by decide) mi_Mo_in rfl rfl (Nat.le_of_ble_eq_true rfl) rfl (show h_Mo_in ≤ _ from by decide) (m_in _ _ _ ?_)
        refine wp_Ki ?_
        refine wp_ifB_ne (pc' := 35) d_Mo_turns_25 (by decide) (fun h25 => ?_) (fun h25 => absurd (by assumption) h25)
        refine wp_aload_n d_Mo_turns_35 rfl rfl ?_
        refine wp_getR d_Mo_turns_36 ow_Mo_turns fl_8_7 (O_91 _) rfl ?_
        refine wp_iconst (x := nI 0) d_Mo_turns_39 rfl ?_
        refine wp_iaload d_Mo_turns_40 (A_92 _) (by omega) (by decide) (congrFun C.1 0) ?_
        refine wp_if_ne (pc' := 51) d_Mo_turns_41 (by decide) (fun h41 => ?_) (fun h41 => absurd h41 h0)
        refine wp_iload_n d_Mo_turns_51 rfl rfl ?_
        refine wp_if_ne (pc' := 69) d_Mo_turns_52 (by decide) (fun h52 => ?_) (fun h52 => absurd h52 hz)
        refine wp_aload_n d_Mo_turns_69 rfl rfl ?_
        refine wp_iload_n d_Mo_turns_70 rfl rfl ?_
        refine wp_iload_n d_Mo_turns_71 rfl rfl ?_
        refine wp_iload_n d_Mo_turns_72 rfl rfl ?_
        refine wp_invV d_Mo_turns_73 ow_Mo_turns lk_8_211 (by decide) mi_Mo_byTurns rfl rfl (Nat.le_of_ble_eq_true rfl) rfl (wp_isC (O_91 _)) (show h_Mo_byTurns ≤ _ from by decide) (m_byTurns n' o' p' 70 S q _ hn' (by omega) (by omega) (by omega) C hw (fun S3 C3 f3 => ?_))
        refine wp_Ki ?_
        refine wp_reti d_Mo_turns_76 rt_Mo_turns ?_
        exact mQ_ok K C3 (fr_YB f3)
  · rw [sp_if_f h] at K
    refine cl_in ml_Mo_turns rfl rfl ?_
    refine wp_iload_n d_Mo_turns_0 rfl rfl ?_
    refine wp_invS d_Mo_turns_1 ow_Mo_turns lk_8_100 (by decide) mi_Mo_isOwner rfl rfl (Nat.le_of_ble_eq_true rfl) rfl (show h_Mo_isOwner ≤ _ from by decide) (m_isOwner _ ?_)
    refine wp_Ki ?_
    refine wp_ifB_eq (pc' := 28) d_Mo_turns_4 (by decide) (fun h4 => ?_) (fun h4 => ?_)
    · refine wp_aload_n d_Mo_turns_28 rfl rfl ?_
      refine wp_ldc (v := .int (-1000000001)) d_Mo_turns_29 ow_Mo_turns (by decide +kernel) ?_
      refine wp_invV d_Mo_turns_31 ow_Mo_turns lk_8_59 (by decide) mi_Mo_errs rfl rfl (Nat.le_of_ble_eq_true rfl) rfl (wp_isC (O_91 _)) (show h_Mo_errs ≤ _ from by decide) (m_errs _ 1 (by decide) (by decide) ?_)
      refine wp_Ki ?_
      refine wp_reti d_Mo_turns_34 rt_Mo_turns ?_
      exact lf_i (by decide) (mQ_er (e := 1) K (by decide) C fr.rf)
    · refine wp_iload_n d_Mo_turns_7 rfl rfl ?_
      refine wp_invS d_Mo_turns_8 ow_Mo_turns lk_8_100 (by decide) mi_Mo_isOwner rfl rfl (Nat.le_of_ble_eq_true rfl) rfl (show h_Mo_isOwner ≤ _ from by decide) (m_isOwner _ ?_)
      refine wp_Ki ?_
      refine wp_ifB_eq (pc' := 28) d_Mo_turns_11 (by decide) (fun h11 => ?_) (fun h11 => ?_)
      · refine wp_aload_n d_Mo_turns_28 rfl rfl ?_
        refine wp_ldc (v := .int (-1000000001)) d_Mo_turns_29 ow_Mo_turns (by decide +kernel) ?_
        refine wp_invV d_Mo_turns_31 ow_Mo_turns lk_8_59 (by decide) mi_Mo_errs rfl rfl (Nat.le_of_ble_eq_true rfl) rfl (wp_isC (O_91 _)) (show h_Mo_errs ≤ _ from by decide) (m_errs _ 1 (by decide) (by decide) ?_)
        refine wp_Ki ?_
        refine wp_reti d_Mo_turns_34 rt_Mo_turns ?_
        exact lf_i (by decide) (mQ_er (e := 1) K (by decide) C fr.rf)
      · refine wp_iload_n d_Mo_turns_14 rfl rfl ?_
        refine wp_iload_n d_Mo_turns_15 rfl rfl ?_
        refine wp_ic_eq (pc' := 28) d_Mo_turns_16 (by decide) (fun h16 => ?_) (fun h16 => ?_)
        · refine wp_aload_n d_Mo_turns_28 rfl rfl ?_
          refine wp_ldc (v := .int (-1000000001)) d_Mo_turns_29 ow_Mo_turns (by decide +kernel) ?_
          refine wp_invV d_Mo_turns_31 ow_Mo_turns lk_8_59 (by decide) mi_Mo_errs rfl rfl (Nat.le_of_ble_eq_true rfl) rfl (wp_isC (O_91 _)) (show h_Mo_errs ≤ _ from by decide) (m_errs _ 1 (by decide) (by decide) ?_)
          refine wp_Ki ?_
          refine wp_reti d_Mo_turns_34 rt_Mo_turns ?_
          exact lf_i (by decide) (mQ_er (e := 1) K (by decide) C fr.rf)
        · refine wp_iload_n d_Mo_turns_19 rfl rfl ?_
          refine wp_iconst (x := nI 0) d_Mo_turns_20 rfl ?_
          refine wp_iconst (x := nI 4) d_Mo_turns_21 rfl ?_
          refine wp_invS d_Mo_turns_22 ow_Mo_turns lk_8_54 (by decide) mi_Mo_in rfl rfl (Nat.le_of_ble_eq_true rfl) rfl (show h_Mo_in ≤ _ from by decide) (m_in _ _ _ ?_)
          refine wp_Ki ?_
          refine wp_ifB_ne (pc' := 35) d_Mo_turns_25 (by decide) (fun h25 => absurd ⟨h4, h11, h16, h25⟩ h) (fun h25 => ?_)
          refine wp_aload_n d_Mo_turns_28 rfl rfl ?_
          refine wp_ldc (v := .int (-1000000001)) d_Mo_turns_29 ow_Mo_turns (by decide +kernel) ?_
          refine wp_invV d_Mo_turns_31 ow_Mo_turns lk_8_59 (by decide) mi_Mo_errs rfl rfl (Nat.le_of_ble_eq_true rfl) rfl (wp_isC (O_91 _)) (show h_Mo_errs ≤ _ from by decide) (m_errs _ 1 (by decide) (by decide) ?_)
          refine wp_Ki ?_
          refine wp_reti d_Mo_turns_34 rt_Mo_turns ?_
          exact lf_i (by decide) (mQ_er (e := 1) K (by decide) C fr.rf)
end OB
