/-! the reference: a sheet begun -/
def sh_cl (S : wp_S) (s k : Nat) : wp_S := (S.1, fun c j => if c = 102 ∧ 40 * s ≤ j ∧ j < 40 * s + k then nI 0 else S.2 c j)
theorem sh_cl_0 (S : wp_S) (s : Nat) : sh_cl S s 0 = S := Prod.ext rfl (funext fun c => funext fun j => if_neg (by omega))
theorem sh_cl_s (S : wp_S) (s k : Nat) : wp_u (sh_cl S s k) 102 (40 * s + k) (nI 0) = sh_cl S s (k + 1) := by
  refine Prod.ext rfl (funext fun c => funext fun j => ?_)
  rw [wp_u2]
  simp only [sh_cl]
  by_cases h1 : c = 102 ∧ j = 40 * s + k
  · rw [if_pos h1, if_pos (by omega)]
  · by_cases h2 : c = 102 ∧ 40 * s ≤ j ∧ j < 40 * s + k
    · rw [if_neg h1, if_pos h2, if_pos (by omega)]
    · rw [if_neg h1, if_neg h2, if_neg (by omega)]
section OL
variable {S : wp_S} {q : sp_R} {mu : Int32} {Q : Option Value → wp_S → Prop}
theorem m_sh_loop (s : Nat) (hs : s < 4) (b n : Int32) (K : Q (some (.int (nI 1))) (sh_cl S s 40)) : ∀ m k, k + m = 40 → wp (h_Mo_sheet - 1) y_Mo_sheet 93 [some (.ref 91), some (.int (nI s)), some (.int b), some (.int n), some (.int (nI k))] [] (sh_cl S s k) Q := by
  intro m
  induction m with
  | zero =>
    intro k hk
    obtain rfl : k = 40 := by omega
    refine wp_iload d_Mo_sheet_93 rfl ?_
    refine wp_bipush (x := nI 40) d_Mo_sheet_95 (by decide) ?_
    refine wp_icN_ge (pc' := 119) d_Mo_sheet_97 (by decide) (by omega) (by omega) (fun _ => ?_) (fun q => absurd q (by decide))
    refine wp_iconst (x := nI 1) d_Mo_sheet_119 rfl ?_
    refine wp_reti d_Mo_sheet_120 rt_Mo_sheet ?_
    exact K
  | succ m ih =>
    intro k hk
    refine wp_iload d_Mo_sheet_93 rfl ?_
    refine wp_bipush (x := nI 40) d_Mo_sheet_95 (by decide) ?_
    refine wp_icN_ge (pc' := 119) d_Mo_sheet_97 (by decide) (by omega) (by omega) (fun h97 => absurd h97 (by omega)) (fun h97 => ?_)
    refine wp_aload_n d_Mo_sheet_100 rfl rfl ?_
    refine wp_getR d_Mo_sheet_101 ow_Mo_sheet fl_8_44 (O_91 _) rfl ?_
    refine wp_bipush (x := nI 40) d_Mo_sheet_104 (by decide) ?_
    refine wp_iload_n d_Mo_sheet_106 rfl rfl ?_
    refine wp_imul d_Mo_sheet_107 (pk_mul _ _) ?_
    refine wp_iload d_Mo_sheet_108 rfl ?_
    refine wp_iadd d_Mo_sheet_110 (nI_add _ _) ?_
    refine wp_iconst (x := nI 0) d_Mo_sheet_111 rfl ?_
    refine wp_iastore d_Mo_sheet_112 (A_102 _) (by omega) (by decide) ?_
    refine wp_eqS (sh_cl_s S s k) ?_
    refine wp_iinc4 d_Mo_sheet_113 rfl (nI_add _ 1) ?_
    refine wp_goto (pc' := 93) d_Mo_sheet_116 (by decide) ?_
    exact ih (k + 1) (by omega)
end OL
