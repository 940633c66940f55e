/-! the class: laws -/
theorem sp_code_one {q : sp_R} {u : Nat} (hu : u < 2) (h : sp_tw q u) (a b c : Int32) : ∃ v, ∀ St, sp_ex a b c (sp_code q u) St = v :: St := by
  rcases h with h | ⟨n, hn, hz, h1, h2⟩
  · have hl : q (6 + u) < 0 := by rw [h]; decide
    unfold sp_code
    rw [if_pos hl]
    by_cases h0 : u = 0
    · rw [if_pos h0]
      refine ⟨sp_jn (nI 62) a (nI 2), fun St => ?_⟩
      rw [show ([10000, 2, 20062] : List Int32) = [10000] ++ [nI 2] ++ [20000 + nI 62] from by decide]
      exact sp_st_join (by decide) (by decide) (sp_st_1 _) (sp_st_n 2 (by decide) _)
    · rw [if_neg h0]
      exact ⟨a, fun St => sp_st_1 St⟩
  · have hl : ¬ q (6 + u) < 0 := by rw [hz]; exact nI_pos (by omega)
    unfold sp_code
    rw [if_neg hl, hz, nI_clamp (by omega)]
    obtain ⟨-, -, -, hQ⟩ := m_walks (S := (0, fun k j => if k = 92 then q j else 0)) (Q := fun _ _ => ∃ v, ∀ St, sp_ex a b c (sp_ps (sp_tx q u) n u).2.2 St = v :: St) (q := q) (u := u) (n := n) (a := a) (b := b) (c := c) rfl hu hn hz (fun v hv => ⟨v, hv h1⟩)
    exact hQ
theorem sw_join {x : Int32} (h : ∀ k : Nat, k ∈ [38, 42, 43, 45, 47, 60, 61, 62, 124] → x ≠ nI k) : Op.lookupswitch.offset [(38, 97), (42, 152), (43, 144), (45, 148), (47, 156), (60, 111), (61, 122), (62, 133), (124, 83)] 168 x.toInt = 168 := by
  have g : ∀ (k : Nat) (z : Int), k ∈ [38, 42, 43, 45, 47, 60, 61, 62, 124] → k < 2 ^ 31 → z = (k : Int) → ¬ z = x.toInt := fun k z hk hk2 hz e => h k hk (Int32.toInt_inj.mp (by rw [nI_toInt hk2, ← hz, e]))
  rw [Op.lookupswitch.offset_cons, if_neg (g 38 38 (by decide) (by decide) rfl), Op.lookupswitch.offset_cons, if_neg (g 42 42 (by decide) (by decide) rfl), Op.lookupswitch.offset_cons, if_neg (g 43 43 (by decide) (by decide) rfl), Op.lookupswitch.offset_cons, if_neg (g 45 45 (by decide) (by decide) rfl), Op.lookupswitch.offset_cons, if_neg (g 47 47 (by decide) (by decide) rfl), Op.lookupswitch.offset_cons, if_neg (g 60 60 (by decide) (by decide) rfl), Op.lookupswitch.offset_cons, if_neg (g 61 61 (by decide) (by decide) rfl), Op.lookupswitch.offset_cons, if_neg (g 62 62 (by decide) (by decide) rfl), Op.lookupswitch.offset_cons, if_neg (g 124 124 (by decide) (by decide) rfl), Op.lookupswitch.offset_nil]
theorem i_dec (k : Nat) : nI (k + 1) + Int32.ofInt (-1) = nI k := by
  rw [show Int32.ofInt (-1) = -nI 1 from by decide, ← Int32.sub_eq_add_neg, pk_sub (show 1 ≤ k + 1 by omega)]
  rfl
section LW
variable {S : wp_S} {q : sp_R} {Q : Option Value → wp_S → Prop}
theorem c_join (s x z : Int32) (K : Q (some (.int (sp_jn s x z))) S) : cl h_Lw_join y_Lw_join [.int s, .int x, .int z] S Q := by
  by_cases h124x : s = nI 124
  · subst h124x
    rw [jn_or] at K
    refine cl_in ml_Lw_join rfl rfl ?_
    refine wp_iload_n d_Lw_join_0 rfl rfl ?_
    refine wp_ls (pc' := 84) d_Lw_join_1 (by decide) rfl (by decide) ?_
    refine wp_iload_n d_Lw_join_84 rfl rfl ?_
    refine wp_if_ne (pc' := 92) d_Lw_join_85 (by decide) (fun h85 => ?_) (fun h85 => ?_)
    · refine wp_iconst (x := nI 1) d_Lw_join_92 rfl ?_
      refine wp_goto (pc' := 97) d_Lw_join_93 (by decide) ?_
      refine wp_reti d_Lw_join_97 rt_Lw_join ?_
      exact lf_i (x := 1) (bi_t (Or.inl h85)).symm K
    · refine wp_iload_n d_Lw_join_88 rfl rfl ?_
      refine wp_if_eq (pc' := 96) d_Lw_join_89 (by decide) (fun h89 => ?_) (fun h89 => ?_)
      · refine wp_iconst (x := nI 0) d_Lw_join_96 rfl ?_
        refine wp_reti d_Lw_join_97 rt_Lw_join ?_
        exact lf_i (x := 0) (bi_f (fun z => z.elim (fun z => z h85) (fun z => z h89))).symm K
      · refine wp_iconst (x := nI 1) d_Lw_join_92 rfl ?_
        refine wp_goto (pc' := 97) d_Lw_join_93 (by decide) ?_
        refine wp_reti d_Lw_join_97 rt_Lw_join ?_
        exact lf_i (x := 1) (bi_t (Or.inr h89)).symm K
  by_cases h38x : s = nI 38
  · subst h38x
    rw [jn_and] at K
    refine cl_in ml_Lw_join rfl rfl ?_
    refine wp_iload_n d_Lw_join_0 rfl rfl ?_
    refine wp_ls (pc' := 98) d_Lw_join_1 (by decide) rfl (by decide) ?_
    refine wp_iload_n d_Lw_join_98 rfl rfl ?_
    refine wp_if_eq (pc' := 110) d_Lw_join_99 (by decide) (fun h99 => ?_) (fun h99 => ?_)
    · refine wp_iconst (x := nI 0) d_Lw_join_110 rfl ?_
      refine wp_reti d_Lw_join_111 rt_Lw_join ?_
      exact lf_i (x := 0) (bi_f (fun z => z.1 h99)).symm K
    · refine wp_iload_n d_Lw_join_102 rfl rfl ?_
      refine wp_if_eq (pc' := 110) d_Lw_join_103 (by decide) (fun h103 => ?_) (fun h103 => ?_)
      · refine wp_iconst (x := nI 0) d_Lw_join_110 rfl ?_
        refine wp_reti d_Lw_join_111 rt_Lw_join ?_
        exact lf_i (x := 0) (bi_f (fun z => z.2 h103)).symm K
      · refine wp_iconst (x := nI 1) d_Lw_join_106 rfl ?_
        refine wp_goto (pc' := 111) d_Lw_join_107 (by decide) ?_
        refine wp_reti d_Lw_join_111 rt_Lw_join ?_
        exact lf_i (x := 1) (bi_t ⟨h99, h103⟩).symm K
  by_cases h60x : s = nI 60
  · subst h60x
    rw [jn_lt] at K
    refine cl_in ml_Lw_join rfl rfl ?_
    refine wp_iload_n d_Lw_join_0 rfl rfl ?_
    refine wp_ls (pc' := 112) d_Lw_join_1 (by decide) rfl (by decide) ?_
    refine wp_iload_n d_Lw_join_112 rfl rfl ?_
    refine wp_iload_n d_Lw_join_113 rfl rfl ?_
    refine wp_ic_ge (pc' := 121) d_Lw_join_114 (by decide) (fun h114 => ?_) (fun h114 => ?_)
    · refine wp_iconst (x := nI 0) d_Lw_join_121 rfl ?_
      refine wp_reti d_Lw_join_122 rt_Lw_join ?_
      exact lf_i (x := 0) (bi_f (Int32.not_lt.mpr h114)).symm K
    · refine wp_iconst (x := nI 1) d_Lw_join_117 rfl ?_
      refine wp_goto (pc' := 122) d_Lw_join_118 (by decide) ?_
      refine wp_reti d_Lw_join_122 rt_Lw_join ?_
      exact lf_i (x := 1) (bi_t (Int32.not_le.mp h114)).symm K
  by_cases h61x : s = nI 61
  · subst h61x
    rw [jn_eq] at K
    refine cl_in ml_Lw_join rfl rfl ?_
    refine wp_iload_n d_Lw_join_0 rfl rfl ?_
    refine wp_ls (pc' := 123) d_Lw_join_1 (by decide) rfl (by decide) ?_
    refine wp_iload_n d_Lw_join_123 rfl rfl ?_
    refine wp_iload_n d_Lw_join_124 rfl rfl ?_
    refine wp_ic_ne (pc' := 132) d_Lw_join_125 (by decide) (fun h125 => ?_) (fun h125 => ?_)
    · refine wp_iconst (x := nI 0) d_Lw_join_132 rfl ?_
      refine wp_reti d_Lw_join_133 rt_Lw_join ?_
      exact lf_i (x := 0) (bi_f h125).symm K
    · refine wp_iconst (x := nI 1) d_Lw_join_128 rfl ?_
      refine wp_goto (pc' := 133) d_Lw_join_129 (by decide) ?_
      refine wp_reti d_Lw_join_133 rt_Lw_join ?_
      exact lf_i (x := 1) (bi_t h125).symm K
  by_cases h62x : s = nI 62
  · subst h62x
    rw [jn_gt] at K
    refine cl_in ml_Lw_join rfl rfl ?_
    refine wp_iload_n d_Lw_join_0 rfl rfl ?_
    refine wp_ls (pc' := 134) d_Lw_join_1 (by decide) rfl (by decide) ?_
    refine wp_iload_n d_Lw_join_134 rfl rfl ?_
    refine wp_iload_n d_Lw_join_135 rfl rfl ?_
    refine wp_ic_le (pc' := 143) d_Lw_join_136 (by decide) (fun h136 => ?_) (fun h136 => ?_)
    · refine wp_iconst (x := nI 0) d_Lw_join_143 rfl ?_
      refine wp_reti d_Lw_join_144 rt_Lw_join ?_
      exact lf_i (x := 0) (bi_f (Int32.not_lt.mpr h136)).symm K
    · refine wp_iconst (x := nI 1) d_Lw_join_139 rfl ?_
      refine wp_goto (pc' := 144) d_Lw_join_140 (by decide) ?_
      refine wp_reti d_Lw_join_144 rt_Lw_join ?_
      exact lf_i (x := 1) (bi_t (Int32.not_le.mp h136)).symm K
  by_cases h43x : s = nI 43
  · subst h43x
    rw [jn_add] at K
    refine cl_in ml_Lw_join rfl rfl ?_
    refine wp_iload_n d_Lw_join_0 rfl rfl ?_
    refine wp_ls (pc' := 145) d_Lw_join_1 (by decide) rfl (by decide) ?_
    refine wp_iload_n d_Lw_join_145 rfl rfl ?_
    refine wp_iload_n d_Lw_join_146 rfl rfl ?_
    refine wp_iadd d_Lw_join_147 rfl ?_
    refine wp_reti d_Lw_join_148 rt_Lw_join ?_
    exact K
  by_cases h45x : s = nI 45
  · subst h45x
    rw [jn_sub] at K
    refine cl_in ml_Lw_join rfl rfl ?_
    refine wp_iload_n d_Lw_join_0 rfl rfl ?_
    refine wp_ls (pc' := 149) d_Lw_join_1 (by decide) rfl (by decide) ?_
    refine wp_iload_n d_Lw_join_149 rfl rfl ?_
    refine wp_iload_n d_Lw_join_150 rfl rfl ?_
    refine wp_isub d_Lw_join_151 rfl ?_
    refine wp_reti d_Lw_join_152 rt_Lw_join ?_
    exact K
  by_cases h42x : s = nI 42
  · subst h42x
    rw [jn_mul] at K
    refine cl_in ml_Lw_join rfl rfl ?_
    refine wp_iload_n d_Lw_join_0 rfl rfl ?_
    refine wp_ls (pc' := 153) d_Lw_join_1 (by decide) rfl (by decide) ?_
    refine wp_iload_n d_Lw_join_153 rfl rfl ?_
    refine wp_iload_n d_Lw_join_154 rfl rfl ?_
    refine wp_imul d_Lw_join_155 rfl ?_
    refine wp_reti d_Lw_join_156 rt_Lw_join ?_
    exact K
  by_cases h47x : s = nI 47
  · subst h47x
    rw [jn_div] at K
    refine cl_in ml_Lw_join rfl rfl ?_
    refine wp_iload_n d_Lw_join_0 rfl rfl ?_
    refine wp_ls (pc' := 157) d_Lw_join_1 (by decide) rfl (by decide) ?_
    refine wp_iload_n d_Lw_join_157 rfl rfl ?_
    refine wp_if_ne (pc' := 165) d_Lw_join_158 (by decide) (fun h158 => ?_) (fun h158 => ?_)
    · refine wp_iload_n d_Lw_join_165 rfl rfl ?_
      refine wp_iload_n d_Lw_join_166 rfl rfl ?_
      refine wp_idiv d_Lw_join_167 h158 rfl ?_
      refine wp_reti d_Lw_join_168 rt_Lw_join ?_
      first
      | exact lf_i (if_pos h158).symm K
      | exact lf_i (if_neg h158).symm K
    · refine wp_iconst (x := nI 0) d_Lw_join_161 rfl ?_
      refine wp_goto (pc' := 168) d_Lw_join_162 (by decide) ?_
      refine wp_reti d_Lw_join_168 rt_Lw_join ?_
      first
      | exact lf_i (if_pos h158).symm K
      | exact lf_i (if_neg h158).symm K
  have e : sp_jn s x z = if z = 0 then 0 else x - x / z * z := (if_neg (show ¬ s = 124 from h124x)).trans ((if_neg (show ¬ s = 38 from h38x)).trans ((if_neg (show ¬ s = 60 from h60x)).trans ((if_neg (show ¬ s = 61 from h61x)).trans ((if_neg (show ¬ s = 62 from h62x)).trans ((if_neg (show ¬ s = 43 from h43x)).trans ((if_neg (show ¬ s = 45 from h45x)).trans ((if_neg (show ¬ s = 42 from h42x)).trans (if_neg (show ¬ s = 47 from h47x)))))))))
  rw [e] at K
  refine cl_in ml_Lw_join rfl rfl ?_
  refine wp_iload_n d_Lw_join_0 rfl rfl ?_
  refine wp_ls (pc' := 169) d_Lw_join_1 (by decide)  (sw_join (fun k hk => by
  simp only [List.mem_cons, List.not_mem_nil, or_false] at hk
  rcases hk with rfl | rfl | rfl | rfl | rfl | rfl | rfl | rfl | rfl <;> assumption)) (by decide) ?_
  refine wp_iload_n d_Lw_join_169 rfl rfl ?_
  refine wp_if_ne (pc' := 177) d_Lw_join_170 (by decide) (fun h170 => ?_) (fun h170 => ?_)
  · refine wp_iload_n d_Lw_join_177 rfl rfl ?_
    refine wp_iload_n d_Lw_join_178 rfl rfl ?_
    refine wp_irem d_Lw_join_179 h170 rfl ?_
    refine wp_reti d_Lw_join_180 rt_Lw_join ?_
    first
    | exact lf_i (if_pos h170).symm K
    | exact lf_i (if_neg h170).symm K
  · refine wp_iconst (x := nI 0) d_Lw_join_173 rfl ?_
    refine wp_goto (pc' := 180) d_Lw_join_174 (by decide) ?_
    refine wp_reti d_Lw_join_180 rt_Lw_join ?_
    first
    | exact lf_i (if_pos h170).symm K
    | exact lf_i (if_neg h170).symm K
/-- a stack, its top first -/
def stk (S : wp_S) (k : Nat) : List Int32 → Prop
  | [] => True
  | x :: r => S.2 k r.length = x ∧ stk S k r
theorem stk_w {S : wp_S} {k : Nat} {v : Int32} {j : Nat} : ∀ {r : List Int32}, stk S k r → r.length ≤ j → stk (wp_u S k j v) k r
  | [], _, _ => trivial
  | x :: r, h, hj => by
    have hj : r.length + 1 ≤ j := hj
    exact ⟨(wp_un (by omega)).trans h.1, stk_w h.2 (by omega)⟩
theorem sp_st_push {a b c g : Int32} (h : g < nI 20000) (St : List Int32) : sp_st a b c g St = (if g < 10000 then g else if g = 10000 then a else if g = 10001 then b else c) :: St := if_pos h
theorem sp_st_nt {a b c x : Int32} (r : List Int32) : sp_st a b c (nI 20033) (x :: r) = bi (x = 0) :: r := by
  unfold sp_st
  rw [if_neg (by decide), if_pos (by decide)]
theorem sp_st_nt0 {a b c : Int32} : sp_st a b c (nI 20033) [] = [] := by
  unfold sp_st
  rw [if_neg (by decide), if_pos (by decide)]
theorem sp_st_jn {a b c g x z : Int32} (h : ¬ g < nI 20000) (h2 : g ≠ nI 20033) (r : List Int32) : sp_st a b c g (z :: x :: r) = sp_jn (g - nI 20000) x z :: r := (if_neg h).trans (if_neg h2)
theorem sp_st_j0 {a b c g : Int32} (h : ¬ g < nI 20000) (h2 : g ≠ nI 20033) {St : List Int32} (hs : St.length ≤ 1) : sp_st a b c g St = St := by
  unfold sp_st
  rw [if_neg (show ¬ g < 20000 from h), if_neg (show ¬ g = 20033 from h2)]
  match St, hs with
  | [], _ => rfl
  | [x], _ => rfl
end LW
section LW0
variable {S : wp_S} {q : sp_R} {Q : Option Value → wp_S → Prop}
theorem c_wk0 {C : List Int32} (hC : C.length ≤ 50) (hN : S.2 4 3 = nI C.length) (hk : ∀ k x, C[k]? = some x → S.2 5 k = x) (a b c v : Int32) (K : ∀ S', fr (fun k _ => k = 6) S S' → Q (some (.int v)) S') : ∀ m i (St : List Int32) (S' : wp_S) (l6 : Option Value), i + m = C.length → sp_ex a b c (C.drop i) St = [v] → stk S' 6 St → St.length ≤ i → fr (fun k _ => k = 6) S S' → wp (h_Lw_work - 1) y_Lw_work 6 [some (.ref 4), some (.int a), some (.int b), some (.int c), some (.int (nI St.length)), some (.int (nI i)), l6] [] S' Q := by
  intro m
  induction m with
  | zero =>
    intro i St S' l6 hi e s hl fS
    rw [List.drop_of_length_le (by omega)] at e
    have e : St = [v] := e
    subst e
    have s1 : S'.2 6 0 = v := s.1
    show wp (h_Lw_work - 1) y_Lw_work 6 [some (.ref 4), some (.int a), some (.int b), some (.int c), some (.int (nI 1)), some (.int (nI i)), l6] [] S' Q
    refine wp_iload d_Lw_work_6 rfl ?_
    refine wp_aload_n d_Lw_work_8 rfl rfl ?_
    refine wp_getI d_Lw_work_9 ow_Lw_work fl_2_18 (O_4 _) rfl ((fS.2 4 3 (by omega)).trans hN) ?_
    refine wp_icN_ge (pc' := 184) d_Lw_work_12 (by decide) (by omega) (by omega) (fun h12 => ?_) (fun h12 => absurd h12 (by omega))
    refine wp_iload d_Lw_work_184 rfl ?_
    refine wp_ifN_le (pc' := 198) d_Lw_work_186 (by decide) (by omega) (fun q => absurd q (by decide)) (fun _ => ?_)
    refine wp_aload_n d_Lw_work_189 rfl rfl ?_
    refine wp_getR d_Lw_work_190 ow_Lw_work fl_2_15 (O_4 _) rfl ?_
    refine wp_iconst (x := nI 0) d_Lw_work_193 rfl ?_
    refine wp_iaload d_Lw_work_194 (A_6 _) (by omega) (by decide) (s1) ?_
    refine wp_goto (pc' := 199) d_Lw_work_195 (by decide) ?_
    refine wp_reti d_Lw_work_199 rt_Lw_work ?_
    exact K S' fS
  | succ m ih =>
    intro i St S' l6 hi e s hl fS
    have hlt : i < C.length := by omega
    rw [List.drop_eq_getElem_cons hlt] at e
    have e : sp_ex a b c (C.drop (i + 1)) (sp_st a b c C[i] St) = [v] := e
    have hg : S'.2 5 i = C[i] := (fS.2 5 i (by omega)).trans (hk i _ (List.getElem?_eq_getElem hlt))
    generalize C[i] = g at e hg
    have IH := fun (St' : List Int32) (S2 : wp_S) (l6 : Option Value) (he : sp_st a b c g St = St') (hs : stk S2 6 St') (hl : St'.length ≤ i + 1) (f : fr (fun k _ => k = 6) S S2) => ih (i + 1) St' S2 l6 (by omega) (he ▸ e) hs hl f
    clear ih e
    have up : ∀ {j : Nat} {x : Int32}, fr (fun k _ => k = 6) S (wp_u S' 6 j x) := fS.up rfl
    have K93 : ¬ g < nI 20000 → wp (h_Lw_work - 1) y_Lw_work 93 [some (.ref 4), some (.int a), some (.int b), some (.int c), some (.int (nI St.length)), some (.int (nI i)), some (.int g)] [] S' Q := by
      intro h1
      by_cases h2 : g = nI 20033
      · subst h2
        match St, IH, s, hl with
        | [], IH, s, hl =>
          refine wp_iload d_Lw_work_93 rfl ?_
          refine wp_sipush (x := nI 20033) d_Lw_work_95 (by decide) ?_
          refine wp_icN_ne (pc' := 135) d_Lw_work_98 (by decide) (by omega) (by omega) (fun q => absurd q (by decide)) (fun _ => ?_)
          refine wp_iload d_Lw_work_101 rfl ?_
          refine wp_ifN_le (pc' := 135) d_Lw_work_103 (by decide) (by omega) (fun _ => ?_) (fun q => absurd q (by decide))
          refine wp_iload d_Lw_work_135 rfl ?_
          refine wp_iconst (x := nI 1) d_Lw_work_137 rfl ?_
          refine wp_icN_le (pc' := 178) d_Lw_work_138 (by decide) (by omega) (by omega) (fun _ => ?_) (fun q => absurd q (by decide))
          refine wp_iinc5 d_Lw_work_178 rfl (nI_add _ 1) ?_
          refine wp_goto (pc' := 6) d_Lw_work_181 (by decide) ?_
          exact IH [] S' _ sp_st_nt0 trivial (Nat.zero_le _) fS
        | x :: r, IH, s, hl =>
          have hl : r.length + 1 ≤ i := hl
          have hx : S'.2 6 r.length = x := s.1
          have hp : nI (r.length + 1) - nI 1 = nI r.length := (pk_sub (show 1 ≤ r.length + 1 by omega)).trans (congrArg nI (show r.length + 1 - 1 = r.length by omega))
          have IH := IH (bi (x = 0) :: r) (wp_u S' 6 r.length (bi (x = 0))) (some (.int (nI 20033))) (sp_st_nt r) ⟨wp_us, stk_w s.2 (Nat.le_refl _)⟩ (by show r.length + 1 ≤ i + 1; omega) up
          have IH : wp (h_Lw_work - 1) y_Lw_work 6 [some (.ref 4), some (.int a), some (.int b), some (.int c), some (.int (nI (r.length + 1))), some (.int (nI (i + 1))), some (.int (nI 20033))] [] (wp_u S' 6 r.length (bi (x = 0))) Q := IH
          show wp (h_Lw_work - 1) y_Lw_work 93 [some (.ref 4), some (.int a), some (.int b), some (.int c), some (.int (nI (r.length + 1))), some (.int (nI i)), some (.int (nI 20033))] [] S' Q
          refine wp_iload d_Lw_work_93 rfl ?_
          refine wp_sipush (x := nI 20033) d_Lw_work_95 (by decide) ?_
          refine wp_icN_ne (pc' := 135) d_Lw_work_98 (by decide) (by omega) (by omega) (fun q => absurd q (by decide)) (fun _ => ?_)
          refine wp_iload d_Lw_work_101 rfl ?_
          refine wp_ifN_le (pc' := 135) d_Lw_work_103 (by decide) (by omega) (fun h103 => absurd h103 (by omega)) (fun h103 => ?_)
          refine wp_aload_n d_Lw_work_106 rfl rfl ?_
          refine wp_getR d_Lw_work_107 ow_Lw_work fl_2_15 (O_4 _) rfl ?_
          refine wp_iload d_Lw_work_110 rfl ?_
          refine wp_iconst (x := nI 1) d_Lw_work_112 rfl ?_
          refine wp_isub d_Lw_work_113 (hp) ?_
          refine wp_aload_n d_Lw_work_114 rfl rfl ?_
          refine wp_getR d_Lw_work_115 ow_Lw_work fl_2_15 (O_4 _) rfl ?_
          refine wp_iload d_Lw_work_118 rfl ?_
          refine wp_iconst (x := nI 1) d_Lw_work_120 rfl ?_
          refine wp_isub d_Lw_work_121 (hp) ?_
          refine wp_iaload d_Lw_work_122 (A_6 _) (by omega) (by decide) (hx) ?_
          refine wp_if_ne (pc' := 130) d_Lw_work_123 (by decide) (fun h123 => ?_) (fun h123 => ?_)
          · refine wp_iconst (x := nI 0) d_Lw_work_130 rfl ?_
            refine wp_iastore d_Lw_work_131 (A_6 _) (by omega) (by decide) ?_
            refine wp_goto (pc' := 178) d_Lw_work_132 (by decide) ?_
            refine wp_iinc5 d_Lw_work_178 rfl (nI_add _ 1) ?_
            refine wp_goto (pc' := 6) d_Lw_work_181 (by decide) ?_
            first
            | (rw [bi_t h123] at IH
               exact IH)
            | (rw [bi_f h123] at IH
               exact IH)
          · refine wp_iconst (x := nI 1) d_Lw_work_126 rfl ?_
            refine wp_goto (pc' := 131) d_Lw_work_127 (by decide) ?_
            refine wp_iastore d_Lw_work_131 (A_6 _) (by omega) (by decide) ?_
            refine wp_goto (pc' := 178) d_Lw_work_132 (by decide) ?_
            refine wp_iinc5 d_Lw_work_178 rfl (nI_add _ 1) ?_
            refine wp_goto (pc' := 6) d_Lw_work_181 (by decide) ?_
            first
            | (rw [bi_t h123] at IH
               exact IH)
            | (rw [bi_f h123] at IH
               exact IH)
      · by_cases h3 : St.length ≤ 1
        · have IH := IH St S' (some (.int g)) (sp_st_j0 h1 h2 h3) s (by omega) fS
          refine wp_iload d_Lw_work_93 rfl ?_
          refine wp_sipush (x := nI 20033) d_Lw_work_95 (by decide) ?_
          refine wp_ic_ne (pc' := 135) d_Lw_work_98 (by decide) (fun h98 => ?_) (fun h98 => absurd h98 h2)
          refine wp_iload d_Lw_work_135 rfl ?_
          refine wp_iconst (x := nI 1) d_Lw_work_137 rfl ?_
          refine wp_icN_le (pc' := 178) d_Lw_work_138 (by decide) (by omega) (by omega) (fun h138 => ?_) (fun h138 => absurd h138 (by omega))
          refine wp_iinc5 d_Lw_work_178 rfl (nI_add _ 1) ?_
          refine wp_goto (pc' := 6) d_Lw_work_181 (by decide) ?_
          exact IH
        · match St, IH, s, hl, h3 with
          | [], IH, s, hl, h3 => exact absurd (Nat.zero_le 1) h3
          | [x], IH, s, hl, h3 => exact absurd (Nat.le_refl 1) h3
          | z :: x :: r, IH, s, hl, h3 =>
            have hl : r.length + 1 + 1 ≤ i := hl
            have hz : S'.2 6 (r.length + 1) = z := s.1
            have hx : S'.2 6 r.length = x := s.2.1
            have hp : nI (r.length + 1) - nI 1 = nI r.length := (pk_sub (show 1 ≤ r.length + 1 by omega)).trans (congrArg nI (show r.length + 1 - 1 = r.length by omega))
            have hq : nI (r.length + 1 + 1) + Int32.ofInt (-1) = nI (r.length + 1) := i_dec _
            have IH := IH (sp_jn (g - nI 20000) x z :: r) (wp_u S' 6 r.length (sp_jn (g - nI 20000) x z)) (some (.int g)) (sp_st_jn h1 h2 r) ⟨wp_us, stk_w s.2.2 (Nat.le_refl _)⟩ (by show r.length + 1 ≤ i + 1; omega) up
            have IH : wp (h_Lw_work - 1) y_Lw_work 6 [some (.ref 4), some (.int a), some (.int b), some (.int c), some (.int (nI (r.length + 1))), some (.int (nI (i + 1))), some (.int g)] [] (wp_u S' 6 r.length (sp_jn (g - nI 20000) x z)) Q := IH
            show wp (h_Lw_work - 1) y_Lw_work 93 [some (.ref 4), some (.int a), some (.int b), some (.int c), some (.int (nI (r.length + 1 + 1))), some (.int (nI i)), some (.int g)] [] S' Q
            refine wp_iload d_Lw_work_93 rfl ?_
            refine wp_sipush (x := nI 20033) d_Lw_work_95 (by decide) ?_
            refine wp_ic_ne (pc' := 135) d_Lw_work_98 (by decide) (fun h98 => ?_) (fun h98 => absurd h98 h2)
            refine wp_iload d_Lw_work_135 rfl ?_
            refine wp_iconst (x := nI 1) d_Lw_work_137 rfl ?_
            refine wp_icN_le (pc' := 178) d_Lw_work_138 (by decide) (by omega) (by omega) (fun h138 => absurd h138 (by omega)) (fun h138 => ?_)
            refine wp_iinc4 d_Lw_work_141 rfl (hq) ?_
            refine wp_aload_n d_Lw_work_144 rfl rfl ?_
            refine wp_getR d_Lw_work_145 ow_Lw_work fl_2_15 (O_4 _) rfl ?_
            refine wp_iload d_Lw_work_148 rfl ?_
            refine wp_iconst (x := nI 1) d_Lw_work_150 rfl ?_
            refine wp_isub d_Lw_work_151 (hp) ?_
            refine wp_iload d_Lw_work_152 rfl ?_
            refine wp_sipush (x := nI 20000) d_Lw_work_154 (by decide) ?_
            refine wp_isub d_Lw_work_157 rfl ?_
            refine wp_aload_n d_Lw_work_158 rfl rfl ?_
            refine wp_getR d_Lw_work_159 ow_Lw_work fl_2_15 (O_4 _) rfl ?_
            refine wp_iload d_Lw_work_162 rfl ?_
            refine wp_iconst (x := nI 1) d_Lw_work_164 rfl ?_
            refine wp_isub d_Lw_work_165 (hp) ?_
            refine wp_iaload d_Lw_work_166 (A_6 _) (by omega) (by decide) (hx) ?_
            refine wp_aload_n d_Lw_work_167 rfl rfl ?_
            refine wp_getR d_Lw_work_168 ow_Lw_work fl_2_15 (O_4 _) rfl ?_
            refine wp_iload d_Lw_work_171 rfl ?_
            refine wp_iaload d_Lw_work_173 (A_6 _) (by omega) (by decide) (hz) ?_
            refine wp_invS d_Lw_work_174 ow_Lw_work lk_2_38 (by decide) mi_Lw_join rfl rfl (Nat.le_of_ble_eq_true rfl) rfl (show h_Lw_join ≤ _ from by decide) (c_join _ _ _ ?_)
            refine wp_Ki ?_
            refine wp_iastore d_Lw_work_177 (A_6 _) (by omega) (by decide) ?_
            refine wp_iinc5 d_Lw_work_178 rfl (nI_add _ 1) ?_
            refine wp_goto (pc' := 6) d_Lw_work_181 (by decide) ?_
            exact IH
    have IHp := fun (y : Int32) (hy : (if g < 10000 then g else if g = 10000 then a else if g = 10001 then b else c) = y) (h1 : g < nI 20000) => IH (y :: St) (wp_u S' 6 St.length y) (some (.int g)) ((sp_st_push h1 St).trans (by rw [hy])) ⟨wp_us, stk_w s (Nat.le_refl _)⟩ (Nat.succ_le_succ hl) up
    have IHp : ∀ y : Int32, (if g < 10000 then g else if g = 10000 then a else if g = 10001 then b else c) = y → g < nI 20000 → wp (h_Lw_work - 1) y_Lw_work 6 [some (.ref 4), some (.int a), some (.int b), some (.int c), some (.int (nI (St.length + 1))), some (.int (nI (i + 1))), some (.int g)] [] (wp_u S' 6 St.length y) Q := IHp
    refine wp_iload d_Lw_work_6 rfl ?_
    refine wp_aload_n d_Lw_work_8 rfl rfl ?_
    refine wp_getI d_Lw_work_9 ow_Lw_work fl_2_18 (O_4 _) rfl ((fS.2 4 3 (by omega)).trans hN) ?_
    refine wp_icN_ge (pc' := 184) d_Lw_work_12 (by decide) (by omega) (by omega) (fun h12 => absurd h12 (by omega)) (fun h12 => ?_)
    refine wp_aload_n d_Lw_work_15 rfl rfl ?_
    refine wp_getR d_Lw_work_16 ow_Lw_work fl_2_9 (O_4 _) rfl ?_
    refine wp_iload d_Lw_work_19 rfl ?_
    refine wp_iaload d_Lw_work_21 (A_5 _) (by omega) (by decide) (hg) ?_
    refine wp_isto6 d_Lw_work_22 rfl ?_
    refine wp_iload d_Lw_work_24 rfl ?_
    refine wp_sipush (x := nI 20000) d_Lw_work_26 (by decide) ?_
    refine wp_ic_ge (pc' := 93) d_Lw_work_29 (by decide) (fun h29 => ?_) (fun h29 => ?_)
    · exact K93 (Int32.not_lt.mpr h29)
    · refine wp_iload d_Lw_work_32 rfl ?_
      refine wp_aload_n d_Lw_work_34 rfl rfl ?_
      refine wp_getR d_Lw_work_35 ow_Lw_work fl_2_15 (O_4 _) rfl ?_
      refine wp_arraylength d_Lw_work_38 (wp_alA (A_6 _)) ?_
      refine wp_icN_ge (pc' := 93) d_Lw_work_39 (by decide) (by omega) (by omega) (fun h39 => absurd h39 (by omega)) (fun h39 => ?_)
      refine wp_aload_n d_Lw_work_42 rfl rfl ?_
      refine wp_getR d_Lw_work_43 ow_Lw_work fl_2_15 (O_4 _) rfl ?_
      refine wp_iload d_Lw_work_46 rfl ?_
      refine wp_iload d_Lw_work_48 rfl ?_
      refine wp_sipush (x := nI 10000) d_Lw_work_50 (by decide) ?_
      refine wp_ic_ge (pc' := 61) d_Lw_work_53 (by decide) (fun h53 => ?_) (fun h53 => ?_)
      · refine wp_iload d_Lw_work_61 rfl ?_
        refine wp_sipush (x := nI 10000) d_Lw_work_63 (by decide) ?_
        refine wp_ic_ne (pc' := 73) d_Lw_work_66 (by decide) (fun h66 => ?_) (fun h66 => ?_)
        · refine wp_iload d_Lw_work_73 rfl ?_
          refine wp_sipush (x := nI 10001) d_Lw_work_75 (by decide) ?_
          refine wp_ic_ne (pc' := 85) d_Lw_work_78 (by decide) (fun h78 => ?_) (fun h78 => ?_)
          · refine wp_iload_n d_Lw_work_85 rfl rfl ?_
            refine wp_iastore d_Lw_work_86 (A_6 _) (by omega) (by decide) ?_
            refine wp_iinc4 d_Lw_work_87 rfl (nI_add _ 1) ?_
            refine wp_goto (pc' := 178) d_Lw_work_90 (by decide) ?_
            refine wp_iinc5 d_Lw_work_178 rfl (nI_add _ 1) ?_
            refine wp_goto (pc' := 6) d_Lw_work_181 (by decide) ?_
            first
            | exact IHp _ (if_pos (Int32.not_le.mp h53)) (Int32.not_le.mp h29)
            | exact IHp _ ((if_neg (Int32.not_lt.mpr h53)).trans (if_pos h66)) (Int32.not_le.mp h29)
            | exact IHp _ ((if_neg (Int32.not_lt.mpr h53)).trans ((if_neg h66).trans (if_pos h78))) (Int32.not_le.mp h29)
            | exact IHp _ ((if_neg (Int32.not_lt.mpr h53)).trans ((if_neg h66).trans (if_neg h78))) (Int32.not_le.mp h29)
          · refine wp_iload_n d_Lw_work_81 rfl rfl ?_
            refine wp_goto (pc' := 86) d_Lw_work_82 (by decide) ?_
            refine wp_iastore d_Lw_work_86 (A_6 _) (by omega) (by decide) ?_
            refine wp_iinc4 d_Lw_work_87 rfl (nI_add _ 1) ?_
            refine wp_goto (pc' := 178) d_Lw_work_90 (by decide) ?_
            refine wp_iinc5 d_Lw_work_178 rfl (nI_add _ 1) ?_
            refine wp_goto (pc' := 6) d_Lw_work_181 (by decide) ?_
            first
            | exact IHp _ (if_pos (Int32.not_le.mp h53)) (Int32.not_le.mp h29)
            | exact IHp _ ((if_neg (Int32.not_lt.mpr h53)).trans (if_pos h66)) (Int32.not_le.mp h29)
            | exact IHp _ ((if_neg (Int32.not_lt.mpr h53)).trans ((if_neg h66).trans (if_pos h78))) (Int32.not_le.mp h29)
            | exact IHp _ ((if_neg (Int32.not_lt.mpr h53)).trans ((if_neg h66).trans (if_neg h78))) (Int32.not_le.mp h29)
        · refine wp_iload_n d_Lw_work_69 rfl rfl ?_
          refine wp_goto (pc' := 86) d_Lw_work_70 (by decide) ?_
          refine wp_iastore d_Lw_work_86 (A_6 _) (by omega) (by decide) ?_
          refine wp_iinc4 d_Lw_work_87 rfl (nI_add _ 1) ?_
          refine wp_goto (pc' := 178) d_Lw_work_90 (by decide) ?_
          refine wp_iinc5 d_Lw_work_178 rfl (nI_add _ 1) ?_
          refine wp_goto (pc' := 6) d_Lw_work_181 (by decide) ?_
          first
          | exact IHp _ (if_pos (Int32.not_le.mp h53)) (Int32.not_le.mp h29)
          | exact IHp _ ((if_neg (Int32.not_lt.mpr h53)).trans (if_pos h66)) (Int32.not_le.mp h29)
          | exact IHp _ ((if_neg (Int32.not_lt.mpr h53)).trans ((if_neg h66).trans (if_pos h78))) (Int32.not_le.mp h29)
          | exact IHp _ ((if_neg (Int32.not_lt.mpr h53)).trans ((if_neg h66).trans (if_neg h78))) (Int32.not_le.mp h29)
      · refine wp_iload d_Lw_work_56 rfl ?_
        refine wp_goto (pc' := 86) d_Lw_work_58 (by decide) ?_
        refine wp_iastore d_Lw_work_86 (A_6 _) (by omega) (by decide) ?_
        refine wp_iinc4 d_Lw_work_87 rfl (nI_add _ 1) ?_
        refine wp_goto (pc' := 178) d_Lw_work_90 (by decide) ?_
        refine wp_iinc5 d_Lw_work_178 rfl (nI_add _ 1) ?_
        refine wp_goto (pc' := 6) d_Lw_work_181 (by decide) ?_
        first
        | exact IHp _ (if_pos (Int32.not_le.mp h53)) (Int32.not_le.mp h29)
        | exact IHp _ ((if_neg (Int32.not_lt.mpr h53)).trans (if_pos h66)) (Int32.not_le.mp h29)
        | exact IHp _ ((if_neg (Int32.not_lt.mpr h53)).trans ((if_neg h66).trans (if_pos h78))) (Int32.not_le.mp h29)
        | exact IHp _ ((if_neg (Int32.not_lt.mpr h53)).trans ((if_neg h66).trans (if_neg h78))) (Int32.not_le.mp h29)
theorem c_work0 (L : cLw S q 0) (a b c : Int32) (K : ∀ S', fr (fun k _ => k = 6) S S' → Q (some (.int (sp_raw q 0 a b c))) S') : cl h_Lw_work y_Lw_work [.ref 4, .int a, .int b, .int c] S Q := by
  obtain ⟨ht, hC, hN, hk⟩ := L
  obtain ⟨v, hv⟩ := sp_code_one (by decide) ht a b c
  have e : sp_raw q 0 a b c = v := by
    unfold sp_raw
    rw [hv []]
    rfl
  rw [e] at K
  refine cl_in ml_Lw_work rfl rfl ?_
  refine wp_iconst (x := nI 0) d_Lw_work_0 rfl ?_
  refine wp_isto4 d_Lw_work_1 rfl ?_
  refine wp_iconst (x := nI 0) d_Lw_work_3 rfl ?_
  refine wp_isto5 d_Lw_work_4 rfl ?_
  exact c_wk0 (S := S) hC hN hk a b c v K (sp_code q 0).length 0 [] S _ (Nat.zero_add _) (hv []) trivial (Nat.zero_le _) fr.rf
end LW0
section LW1
variable {S : wp_S} {q : sp_R} {Q : Option Value → wp_S → Prop}
theorem c_wk1 {C : List Int32} (hC : C.length ≤ 50) (hN : S.2 7 3 = nI C.length) (hk : ∀ k x, C[k]? = some x → S.2 8 k = x) (a b c v : Int32) (K : ∀ S', fr (fun k _ => k = 9) S S' → Q (some (.int v)) S') : ∀ m i (St : List Int32) (S' : wp_S) (l6 : Option Value), i + m = C.length → sp_ex a b c (C.drop i) St = [v] → stk S' 9 St → St.length ≤ i → fr (fun k _ => k = 9) S S' → wp (h_Lw_work - 1) y_Lw_work 6 [some (.ref 7), some (.int a), some (.int b), some (.int c), some (.int (nI St.length)), some (.int (nI i)), l6] [] S' Q := by
  intro m
  induction m with
  | zero =>
    intro i St S' l6 hi e s hl fS
    rw [List.drop_of_length_le (by omega)] at e
    have e : St = [v] := e
    subst e
    have s1 : S'.2 9 0 = v := s.1
    show wp (h_Lw_work - 1) y_Lw_work 6 [some (.ref 7), some (.int a), some (.int b), some (.int c), some (.int (nI 1)), some (.int (nI i)), l6] [] S' Q
    refine wp_iload d_Lw_work_6 rfl ?_
    refine wp_aload_n d_Lw_work_8 rfl rfl ?_
    refine wp_getI d_Lw_work_9 ow_Lw_work fl_2_18 (O_7 _) rfl ((fS.2 7 3 (by omega)).trans hN) ?_
    refine wp_icN_ge (pc' := 184) d_Lw_work_12 (by decide) (by omega) (by omega) (fun h12 => ?_) (fun h12 => absurd h12 (by omega))
    refine wp_iload d_Lw_work_184 rfl ?_
    refine wp_ifN_le (pc' := 198) d_Lw_work_186 (by decide) (by omega) (fun q => absurd q (by decide)) (fun _ => ?_)
    refine wp_aload_n d_Lw_work_189 rfl rfl ?_
    refine wp_getR d_Lw_work_190 ow_Lw_work fl_2_15 (O_7 _) rfl ?_
    refine wp_iconst (x := nI 0) d_Lw_work_193 rfl ?_
    refine wp_iaload d_Lw_work_194 (A_9 _) (by omega) (by decide) (s1) ?_
    refine wp_goto (pc' := 199) d_Lw_work_195 (by decide) ?_
    refine wp_reti d_Lw_work_199 rt_Lw_work ?_
    exact K S' fS
  | succ m ih =>
    intro i St S' l6 hi e s hl fS
    have hlt : i < C.length := by omega
    rw [List.drop_eq_getElem_cons hlt] at e
    have e : sp_ex a b c (C.drop (i + 1)) (sp_st a b c C[i] St) = [v] := e
    have hg : S'.2 8 i = C[i] := (fS.2 8 i (by omega)).trans (hk i _ (List.getElem?_eq_getElem hlt))
    generalize C[i] = g at e hg
    have IH := fun (St' : List Int32) (S2 : wp_S) (l6 : Option Value) (he : sp_st a b c g St = St') (hs : stk S2 9 St') (hl : St'.length ≤ i + 1) (f : fr (fun k _ => k = 9) S S2) => ih (i + 1) St' S2 l6 (by omega) (he ▸ e) hs hl f
    clear ih e
    have up : ∀ {j : Nat} {x : Int32}, fr (fun k _ => k = 9) S (wp_u S' 9 j x) := fS.up rfl
    have K93 : ¬ g < nI 20000 → wp (h_Lw_work - 1) y_Lw_work 93 [some (.ref 7), some (.int a), some (.int b), some (.int c), some (.int (nI St.length)), some (.int (nI i)), some (.int g)] [] S' Q := by
      intro h1
      by_cases h2 : g = nI 20033
      · subst h2
        match St, IH, s, hl with
        | [], IH, s, hl =>
          refine wp_iload d_Lw_work_93 rfl ?_
          refine wp_sipush (x := nI 20033) d_Lw_work_95 (by decide) ?_
          refine wp_icN_ne (pc' := 135) d_Lw_work_98 (by decide) (by omega) (by omega) (fun q => absurd q (by decide)) (fun _ => ?_)
          refine wp_iload d_Lw_work_101 rfl ?_
          refine wp_ifN_le (pc' := 135) d_Lw_work_103 (by decide) (by omega) (fun _ => ?_) (fun q => absurd q (by decide))
          refine wp_iload d_Lw_work_135 rfl ?_
          refine wp_iconst (x := nI 1) d_Lw_work_137 rfl ?_
          refine wp_icN_le (pc' := 178) d_Lw_work_138 (by decide) (by omega) (by omega) (fun _ => ?_) (fun q => absurd q (by decide))
          refine wp_iinc5 d_Lw_work_178 rfl (nI_add _ 1) ?_
          refine wp_goto (pc' := 6) d_Lw_work_181 (by decide) ?_
          exact IH [] S' _ sp_st_nt0 trivial (Nat.zero_le _) fS
        | x :: r, IH, s, hl =>
          have hl : r.length + 1 ≤ i := hl
          have hx : S'.2 9 r.length = x := s.1
          have hp : nI (r.length + 1) - nI 1 = nI r.length := (pk_sub (show 1 ≤ r.length + 1 by omega)).trans (congrArg nI (show r.length + 1 - 1 = r.length by omega))
          have IH := IH (bi (x = 0) :: r) (wp_u S' 9 r.length (bi (x = 0))) (some (.int (nI 20033))) (sp_st_nt r) ⟨wp_us, stk_w s.2 (Nat.le_refl _)⟩ (by show r.length + 1 ≤ i + 1; omega) up
          have IH : wp (h_Lw_work - 1) y_Lw_work 6 [some (.ref 7), some (.int a), some (.int b), some (.int c), some (.int (nI (r.length + 1))), some (.int (nI (i + 1))), some (.int (nI 20033))] [] (wp_u S' 9 r.length (bi (x = 0))) Q := IH
          show wp (h_Lw_work - 1) y_Lw_work 93 [some (.ref 7), some (.int a), some (.int b), some (.int c), some (.int (nI (r.length + 1))), some (.int (nI i)), some (.int (nI 20033))] [] S' Q
          refine wp_iload d_Lw_work_93 rfl ?_
          refine wp_sipush (x := nI 20033) d_Lw_work_95 (by decide) ?_
          refine wp_icN_ne (pc' := 135) d_Lw_work_98 (by decide) (by omega) (by omega) (fun q => absurd q (by decide)) (fun _ => ?_)
          refine wp_iload d_Lw_work_101 rfl ?_
          refine wp_ifN_le (pc' := 135) d_Lw_work_103 (by decide) (by omega) (fun h103 => absurd h103 (by omega)) (fun h103 => ?_)
          refine wp_aload_n d_Lw_work_106 rfl rfl ?_
          refine wp_getR d_Lw_work_107 ow_Lw_work fl_2_15 (O_7 _) rfl ?_
          refine wp_iload d_Lw_work_110 rfl ?_
          refine wp_iconst (x := nI 1) d_Lw_work_112 rfl ?_
          refine wp_isub d_Lw_work_113 (hp) ?_
          refine wp_aload_n d_Lw_work_114 rfl rfl ?_
          refine wp_getR d_Lw_work_115 ow_Lw_work fl_2_15 (O_7 _) rfl ?_
          refine wp_iload d_Lw_work_118 rfl ?_
          refine wp_iconst (x := nI 1) d_Lw_work_120 rfl ?_
          refine wp_isub d_Lw_work_121 (hp) ?_
          refine wp_iaload d_Lw_work_122 (A_9 _) (by omega) (by decide) (hx) ?_
          refine wp_if_ne (pc' := 130) d_Lw_work_123 (by decide) (fun h123 => ?_) (fun h123 => ?_)
          · refine wp_iconst (x := nI 0) d_Lw_work_130 rfl ?_
            refine wp_iastore d_Lw_work_131 (A_9 _) (by omega) (by decide) ?_
            refine wp_goto (pc' := 178) d_Lw_work_132 (by decide) ?_
            refine wp_iinc5 d_Lw_work_178 rfl (nI_add _ 1) ?_
            refine wp_goto (pc' := 6) d_Lw_work_181 (by decide) ?_
            first
            | (rw [bi_t h123] at IH
               exact IH)
            | (rw [bi_f h123] at IH
               exact IH)
          · refine wp_iconst (x := nI 1) d_Lw_work_126 rfl ?_
            refine wp_goto (pc' := 131) d_Lw_work_127 (by decide) ?_
            refine wp_iastore d_Lw_work_131 (A_9 _) (by omega) (by decide) ?_
            refine wp_goto (pc' := 178) d_Lw_work_132 (by decide) ?_
            refine wp_iinc5 d_Lw_work_178 rfl (nI_add _ 1) ?_
            refine wp_goto (pc' := 6) d_Lw_work_181 (by decide) ?_
            first
            | (rw [bi_t h123] at IH
               exact IH)
            | (rw [bi_f h123] at IH
               exact IH)
      · by_cases h3 : St.length ≤ 1
        · have IH := IH St S' (some (.int g)) (sp_st_j0 h1 h2 h3) s (by omega) fS
          refine wp_iload d_Lw_work_93 rfl ?_
          refine wp_sipush (x := nI 20033) d_Lw_work_95 (by decide) ?_
          refine wp_ic_ne (pc' := 135) d_Lw_work_98 (by decide) (fun h98 => ?_) (fun h98 => absurd h98 h2)
          refine wp_iload d_Lw_work_135 rfl ?_
          refine wp_iconst (x := nI 1) d_Lw_work_137 rfl ?_
          refine wp_icN_le (pc' := 178) d_Lw_work_138 (by decide) (by omega) (by omega) (fun h138 => ?_) (fun h138 => absurd h138 (by omega))
          refine wp_iinc5 d_Lw_work_178 rfl (nI_add _ 1) ?_
          refine wp_goto (pc' := 6) d_Lw_work_181 (by decide) ?_
          exact IH
        · match St, IH, s, hl, h3 with
          | [], IH, s, hl, h3 => exact absurd (Nat.zero_le 1) h3
          | [x], IH, s, hl, h3 => exact absurd (Nat.le_refl 1) h3
          | z :: x :: r, IH, s, hl, h3 =>
            have hl : r.length + 1 + 1 ≤ i := hl
            have hz : S'.2 9 (r.length + 1) = z := s.1
            have hx : S'.2 9 r.length = x := s.2.1
            have hp : nI (r.length + 1) - nI 1 = nI r.length := (pk_sub (show 1 ≤ r.length + 1 by omega)).trans (congrArg nI (show r.length + 1 - 1 = r.length by omega))
            have hq : nI (r.length + 1 + 1) + Int32.ofInt (-1) = nI (r.length + 1) := i_dec _
            have IH := IH (sp_jn (g - nI 20000) x z :: r) (wp_u S' 9 r.length (sp_jn (g - nI 20000) x z)) (some (.int g)) (sp_st_jn h1 h2 r) ⟨wp_us, stk_w s.2.2 (Nat.le_refl _)⟩ (by show r.length + 1 ≤ i + 1; omega) up
            have IH : wp (h_Lw_work - 1) y_Lw_work 6 [some (.ref 7), some (.int a), some (.int b), some (.int c), some (.int (nI (r.length + 1))), some (.int (nI (i + 1))), some (.int g)] [] (wp_u S' 9 r.length (sp_jn (g - nI 20000) x z)) Q := IH
            show wp (h_Lw_work - 1) y_Lw_work 93 [some (.ref 7), some (.int a), some (.int b), some (.int c), some (.int (nI (r.length + 1 + 1))), some (.int (nI i)), some (.int g)] [] S' Q
            refine wp_iload d_Lw_work_93 rfl ?_
            refine wp_sipush (x := nI 20033) d_Lw_work_95 (by decide) ?_
            refine wp_ic_ne (pc' := 135) d_Lw_work_98 (by decide) (fun h98 => ?_) (fun h98 => absurd h98 h2)
            refine wp_iload d_Lw_work_135 rfl ?_
            refine wp_iconst (x := nI 1) d_Lw_work_137 rfl ?_
            refine wp_icN_le (pc' := 178) d_Lw_work_138 (by decide) (by omega) (by omega) (fun h138 => absurd h138 (by omega)) (fun h138 => ?_)
            refine wp_iinc4 d_Lw_work_141 rfl (hq) ?_
            refine wp_aload_n d_Lw_work_144 rfl rfl ?_
            refine wp_getR d_Lw_work_145 ow_Lw_work fl_2_15 (O_7 _) rfl ?_
            refine wp_iload d_Lw_work_148 rfl ?_
            refine wp_iconst (x := nI 1) d_Lw_work_150 rfl ?_
            refine wp_isub d_Lw_work_151 (hp) ?_
            refine wp_iload d_Lw_work_152 rfl ?_
            refine wp_sipush (x := nI 20000) d_Lw_work_154 (by decide) ?_
            refine wp_isub d_Lw_work_157 rfl ?_
            refine wp_aload_n d_Lw_work_158 rfl rfl ?_
            refine wp_getR d_Lw_work_159 ow_Lw_work fl_2_15 (O_7 _) rfl ?_
            refine wp_iload d_Lw_work_162 rfl ?_
            refine wp_iconst (x := nI 1) d_Lw_work_164 rfl ?_
            refine wp_isub d_Lw_work_165 (hp) ?_
            refine wp_iaload d_Lw_work_166 (A_9 _) (by omega) (by decide) (hx) ?_
            refine wp_aload_n d_Lw_work_167 rfl rfl ?_
            refine wp_getR d_Lw_work_168 ow_Lw_work fl_2_15 (O_7 _) rfl ?_
            refine wp_iload d_Lw_work_171 rfl ?_
            refine wp_iaload d_Lw_work_173 (A_9 _) (by omega) (by decide) (hz) ?_
            refine wp_invS d_Lw_work_174 ow_Lw_work lk_2_38 (by decide) mi_Lw_join rfl rfl (Nat.le_of_ble_eq_true rfl) rfl (show h_Lw_join ≤ _ from by decide) (c_join _ _ _ ?_)
            refine wp_Ki ?_
            refine wp_iastore d_Lw_work_177 (A_9 _) (by omega) (by decide) ?_
            refine wp_iinc5 d_Lw_work_178 rfl (nI_add _ 1) ?_
            refine wp_goto (pc' := 6) d_Lw_work_181 (by decide) ?_
            exact IH
    have IHp := fun (y : Int32) (hy : (if g < 10000 then g else if g = 10000 then a else if g = 10001 then b else c) = y) (h1 : g < nI 20000) => IH (y :: St) (wp_u S' 9 St.length y) (some (.int g)) ((sp_st_push h1 St).trans (by rw [hy])) ⟨wp_us, stk_w s (Nat.le_refl _)⟩ (Nat.succ_le_succ hl) up
    have IHp : ∀ y : Int32, (if g < 10000 then g else if g = 10000 then a else if g = 10001 then b else c) = y → g < nI 20000 → wp (h_Lw_work - 1) y_Lw_work 6 [some (.ref 7), some (.int a), some (.int b), some (.int c), some (.int (nI (St.length + 1))), some (.int (nI (i + 1))), some (.int g)] [] (wp_u S' 9 St.length y) Q := IHp
    refine wp_iload d_Lw_work_6 rfl ?_
    refine wp_aload_n d_Lw_work_8 rfl rfl ?_
    refine wp_getI d_Lw_work_9 ow_Lw_work fl_2_18 (O_7 _) rfl ((fS.2 7 3 (by omega)).trans hN) ?_
    refine wp_icN_ge (pc' := 184) d_Lw_work_12 (by decide) (by omega) (by omega) (fun h12 => absurd h12 (by omega)) (fun h12 => ?_)
    refine wp_aload_n d_Lw_work_15 rfl rfl ?_
    refine wp_getR d_Lw_work_16 ow_Lw_work fl_2_9 (O_7 _) rfl ?_
    refine wp_iload d_Lw_work_19 rfl ?_
    refine wp_iaload d_Lw_work_21 (A_8 _) (by omega) (by decide) (hg) ?_
    refine wp_isto6 d_Lw_work_22 rfl ?_
    refine wp_iload d_Lw_work_24 rfl ?_
    refine wp_sipush (x := nI 20000) d_Lw_work_26 (by decide) ?_
    refine wp_ic_ge (pc' := 93) d_Lw_work_29 (by decide) (fun h29 => ?_) (fun h29 => ?_)
    · exact K93 (Int32.not_lt.mpr h29)
    · refine wp_iload d_Lw_work_32 rfl ?_
      refine wp_aload_n d_Lw_work_34 rfl rfl ?_
      refine wp_getR d_Lw_work_35 ow_Lw_work fl_2_15 (O_7 _) rfl ?_
      refine wp_arraylength d_Lw_work_38 (wp_alA (A_9 _)) ?_
      refine wp_icN_ge (pc' := 93) d_Lw_work_39 (by decide) (by omega) (by omega) (fun h39 => absurd h39 (by omega)) (fun h39 => ?_)
      refine wp_aload_n d_Lw_work_42 rfl rfl ?_
      refine wp_getR d_Lw_work_43 ow_Lw_work fl_2_15 (O_7 _) rfl ?_
      refine wp_iload d_Lw_work_46 rfl ?_
      refine wp_iload d_Lw_work_48 rfl ?_
      refine wp_sipush (x := nI 10000) d_Lw_work_50 (by decide) ?_
      refine wp_ic_ge (pc' := 61) d_Lw_work_53 (by decide) (fun h53 => ?_) (fun h53 => ?_)
      · refine wp_iload d_Lw_work_61 rfl ?_
        refine wp_sipush (x := nI 10000) d_Lw_work_63 (by decide) ?_
        refine wp_ic_ne (pc' := 73) d_Lw_work_66 (by decide) (fun h66 => ?_) (fun h66 => ?_)
        · refine wp_iload d_Lw_work_73 rfl ?_
          refine wp_sipush (x := nI 10001) d_Lw_work_75 (by decide) ?_
          refine wp_ic_ne (pc' := 85) d_Lw_work_78 (by decide) (fun h78 => ?_) (fun h78 => ?_)
          · refine wp_iload_n d_Lw_work_85 rfl rfl ?_
            refine wp_iastore d_Lw_work_86 (A_9 _) (by omega) (by decide) ?_
            refine wp_iinc4 d_Lw_work_87 rfl (nI_add _ 1) ?_
            refine wp_goto (pc' := 178) d_Lw_work_90 (by decide) ?_
            refine wp_iinc5 d_Lw_work_178 rfl (nI_add _ 1) ?_
            refine wp_goto (pc' := 6) d_Lw_work_181 (by decide) ?_
            first
            | exact IHp _ (if_pos (Int32.not_le.mp h53)) (Int32.not_le.mp h29)
            | exact IHp _ ((if_neg (Int32.not_lt.mpr h53)).trans (if_pos h66)) (Int32.not_le.mp h29)
            | exact IHp _ ((if_neg (Int32.not_lt.mpr h53)).trans ((if_neg h66).trans (if_pos h78))) (Int32.not_le.mp h29)
            | exact IHp _ ((if_neg (Int32.not_lt.mpr h53)).trans ((if_neg h66).trans (if_neg h78))) (Int32.not_le.mp h29)
          · refine wp_iload_n d_Lw_work_81 rfl rfl ?_
            refine wp_goto (pc' := 86) d_Lw_work_82 (by decide) ?_
            refine wp_iastore d_Lw_work_86 (A_9 _) (by omega) (by decide) ?_
            refine wp_iinc4 d_Lw_work_87 rfl (nI_add _ 1) ?_
            refine wp_goto (pc' := 178) d_Lw_work_90 (by decide) ?_
            refine wp_iinc5 d_Lw_work_178 rfl (nI_add _ 1) ?_
            refine wp_goto (pc' := 6) d_Lw_work_181 (by decide) ?_
            first
            | exact IHp _ (if_pos (Int32.not_le.mp h53)) (Int32.not_le.mp h29)
            | exact IHp _ ((if_neg (Int32.not_lt.mpr h53)).trans (if_pos h66)) (Int32.not_le.mp h29)
            | exact IHp _ ((if_neg (Int32.not_lt.mpr h53)).trans ((if_neg h66).trans (if_pos h78))) (Int32.not_le.mp h29)
            | exact IHp _ ((if_neg (Int32.not_lt.mpr h53)).trans ((if_neg h66).trans (if_neg h78))) (Int32.not_le.mp h29)
        · refine wp_iload_n d_Lw_work_69 rfl rfl ?_
          refine wp_goto (pc' := 86) d_Lw_work_70 (by decide) ?_
          refine wp_iastore d_Lw_work_86 (A_9 _) (by omega) (by decide) ?_
          refine wp_iinc4 d_Lw_work_87 rfl (nI_add _ 1) ?_
          refine wp_goto (pc' := 178) d_Lw_work_90 (by decide) ?_
          refine wp_iinc5 d_Lw_work_178 rfl (nI_add _ 1) ?_
          refine wp_goto (pc' := 6) d_Lw_work_181 (by decide) ?_
          first
          | exact IHp _ (if_pos (Int32.not_le.mp h53)) (Int32.not_le.mp h29)
          | exact IHp _ ((if_neg (Int32.not_lt.mpr h53)).trans (if_pos h66)) (Int32.not_le.mp h29)
          | exact IHp _ ((if_neg (Int32.not_lt.mpr h53)).trans ((if_neg h66).trans (if_pos h78))) (Int32.not_le.mp h29)
          | exact IHp _ ((if_neg (Int32.not_lt.mpr h53)).trans ((if_neg h66).trans (if_neg h78))) (Int32.not_le.mp h29)
      · refine wp_iload d_Lw_work_56 rfl ?_
        refine wp_goto (pc' := 86) d_Lw_work_58 (by decide) ?_
        refine wp_iastore d_Lw_work_86 (A_9 _) (by omega) (by decide) ?_
        refine wp_iinc4 d_Lw_work_87 rfl (nI_add _ 1) ?_
        refine wp_goto (pc' := 178) d_Lw_work_90 (by decide) ?_
        refine wp_iinc5 d_Lw_work_178 rfl (nI_add _ 1) ?_
        refine wp_goto (pc' := 6) d_Lw_work_181 (by decide) ?_
        first
        | exact IHp _ (if_pos (Int32.not_le.mp h53)) (Int32.not_le.mp h29)
        | exact IHp _ ((if_neg (Int32.not_lt.mpr h53)).trans (if_pos h66)) (Int32.not_le.mp h29)
        | exact IHp _ ((if_neg (Int32.not_lt.mpr h53)).trans ((if_neg h66).trans (if_pos h78))) (Int32.not_le.mp h29)
        | exact IHp _ ((if_neg (Int32.not_lt.mpr h53)).trans ((if_neg h66).trans (if_neg h78))) (Int32.not_le.mp h29)
theorem c_work1 (L : cLw S q 1) (a b c : Int32) (K : ∀ S', fr (fun k _ => k = 9) S S' → Q (some (.int (sp_raw q 1 a b c))) S') : cl h_Lw_work y_Lw_work [.ref 7, .int a, .int b, .int c] S Q := by
  obtain ⟨ht, hC, hN, hk⟩ := L
  obtain ⟨v, hv⟩ := sp_code_one (by decide) ht a b c
  have e : sp_raw q 1 a b c = v := by
    unfold sp_raw
    rw [hv []]
    rfl
  rw [e] at K
  refine cl_in ml_Lw_work rfl rfl ?_
  refine wp_iconst (x := nI 0) d_Lw_work_0 rfl ?_
  refine wp_isto4 d_Lw_work_1 rfl ?_
  refine wp_iconst (x := nI 0) d_Lw_work_3 rfl ?_
  refine wp_isto5 d_Lw_work_4 rfl ?_
  exact c_wk1 (S := S) hC hN hk a b c v K (sp_code q 1).length 0 [] S _ (Nat.zero_add _) (hv []) trivial (Nat.zero_le _) fr.rf
end LW1
