/-! the reference: numbers of a sheet -/
def sp_na (b v : Int32) : Int32 := if b = nI 8 then v.toInt8.toInt32 else if b = nI 16 then v.toInt16.toInt32 else v
section OF
variable {S : wp_S} {q : sp_R} {mu : Int32} {Q : Option Value → wp_S → Prop}
theorem m_narrow (b v : Int32) (K : Q (some (.int (sp_na b v))) S) : cl h_Mo_narrow y_Mo_narrow [.int b, .int v] S Q := by
  unfold sp_na at K
  refine cl_in ml_Mo_narrow rfl rfl ?_
  refine wp_iload_n d_Mo_narrow_0 rfl rfl ?_
  refine wp_bipush (x := nI 8) d_Mo_narrow_1 (by decide) ?_
  refine wp_ic_ne (pc' := 11) d_Mo_narrow_3 (by decide) (fun h3 => ?_) (fun h3 => ?_)
  · refine wp_iload_n d_Mo_narrow_11 rfl rfl ?_
    refine wp_bipush (x := nI 16) d_Mo_narrow_12 (by decide) ?_
    refine wp_ic_ne (pc' := 22) d_Mo_narrow_14 (by decide) (fun h14 => ?_) (fun h14 => ?_)
    · refine wp_iload_n d_Mo_narrow_22 rfl rfl ?_
      refine wp_reti d_Mo_narrow_23 rt_Mo_narrow ?_
      rw [if_neg h3, if_neg h14] at K
      exact K
    · refine wp_iload_n d_Mo_narrow_17 rfl rfl ?_
      refine wp_i2s d_Mo_narrow_18 (rfl) ?_
      refine wp_goto (pc' := 23) d_Mo_narrow_19 (by decide) ?_
      refine wp_reti d_Mo_narrow_23 rt_Mo_narrow ?_
      rw [if_neg h3, if_pos h14] at K
      exact K
  · refine wp_iload_n d_Mo_narrow_6 rfl rfl ?_
    refine wp_i2b d_Mo_narrow_7 (rfl) ?_
    refine wp_goto (pc' := 23) d_Mo_narrow_8 (by decide) ?_
    refine wp_reti d_Mo_narrow_23 rt_Mo_narrow ?_
    rw [if_pos h3] at K
    exact K
end OF
