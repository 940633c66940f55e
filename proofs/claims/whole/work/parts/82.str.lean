/-! the class: where a char stands in a text -/
/-- index of a char from a place on, in so many places -/
def sp_xo (x : Int32) (T : List Int32) : Nat → Nat → Int32
  | 0, _ => -1
  | m + 1, i => if T.getD i 0 = x then nI i else sp_xo x T m (i + 1)
theorem sp_xo_s (x : Int32) (T : List Int32) (m i : Nat) : sp_xo x T (m + 1) i = if T.getD i 0 = x then nI i else sp_xo x T m (i + 1) := by rw [sp_xo]
theorem sp_xo_0 (x : Int32) (T : List Int32) (i : Nat) : sp_xo x T 0 i = -1 := by rw [sp_xo]
theorem i_b2 : ∀ b : Fin 256, (nI b.val).toInt8.toInt32 = if b.val < 128 then nI b.val else nI b.val - nI 256 := by decide +kernel
theorem i_b2c {b c : Nat} (hb : b < 256) (hc : c < 128) : nI c = (nI b).toInt8.toInt32 ↔ nI c = nI b := by
  have h : (nI b).toInt8.toInt32 = if b < 128 then nI b else nI b - nI 256 := i_b2 ⟨b, hb⟩
  rw [h]
  by_cases g : b < 128
  · rw [if_pos g]
  · rw [if_neg g]
    have e : (nI b - nI 256).toInt = (b : Int) - 256 := by
      have i1 := nI_toInt (n := b) (by omega)
      have i2 : (nI 256).toInt = 256 := by decide
      rw [Jvm.Kit.i32_sub (by omega) (by omega), i1, i2]
    have ic := nI_toInt (n := c) (by omega)
    have ib := nI_toInt (n := b) (by omega)
    constructor
    · intro y
      have := congrArg Int32.toInt y
      omega
    · intro y
      have := congrArg Int32.toInt y
      omega
def sp_as (T : List Int32) : Prop := ∀ j, j < T.length → ∃ c, c < 128 ∧ T.getD j 0 = nI c
section CX
variable {S : wp_S} {q : sp_R} {mu : Int32} {Q : Option Value → wp_S → Prop}
theorem c_ixc {a : Nat} {T : List Int32} (hA : ab_ba a = some T) (hl : T.length ≤ 20) (hT : sp_as T) {b : Nat} (hb : b < 256) (K : Q (some (.int (sp_xo (nI b) T T.length 0))) S) : cl h_Jl_indexOfChar y_Jl_indexOfChar [.ref a, .int (nI b), .int (nI 0), .int (nI T.length)] S Q := by
  have loop : ∀ m i, i + m = T.length → sp_xo (nI b) T m i = sp_xo (nI b) T T.length 0 → wp (h_Jl_indexOfChar - 1) y_Jl_indexOfChar 7 [some (.ref a), some (.int (nI b)), some (.int (nI 0)), some (.int (nI T.length)), some (.int (nI b).toInt8.toInt32), some (.int (nI i))] [] S Q := by
    intro m
    induction m with
    | zero =>
      intro i hi e
      rw [sp_xo_0] at e
      rw [← e] at K
      obtain rfl : i = T.length := by omega
      refine wp_iload d_Jl_indexOfChar_7 rfl ?_
      refine wp_iload_n d_Jl_indexOfChar_9 rfl rfl ?_
      refine wp_icN_ge (pc' := 31) d_Jl_indexOfChar_10 (by decide) (by omega) (by omega) (fun h10 => ?_) (fun h10 => absurd h10 (by omega))
      refine wp_iconst (x := -1) d_Jl_indexOfChar_31 rfl ?_
      refine wp_reti d_Jl_indexOfChar_32 rt_Jl_indexOfChar ?_
      exact K
    | succ m ih =>
      intro i hi e
      rw [sp_xo_s] at e
      obtain ⟨c, hc, ec⟩ := hT i (by omega)
      refine wp_iload d_Jl_indexOfChar_7 rfl ?_
      refine wp_iload_n d_Jl_indexOfChar_9 rfl rfl ?_
      refine wp_icN_ge (pc' := 31) d_Jl_indexOfChar_10 (by decide) (by omega) (by omega) (fun h10 => absurd h10 (by omega)) (fun h10 => ?_)
      refine wp_aload_n d_Jl_indexOfChar_13 rfl rfl ?_
      refine wp_iload d_Jl_indexOfChar_14 rfl ?_
      refine wp_baload d_Jl_indexOfChar_16 hA (by omega) (by omega) (ec) ?_
      refine wp_iload d_Jl_indexOfChar_17 rfl ?_
      refine wp_ic_ne (pc' := 25) d_Jl_indexOfChar_19 (by decide) (fun h19 => ?_) (fun h19 => ?_)
      · refine wp_iinc5 d_Jl_indexOfChar_25 rfl (nI_add _ 1) ?_
        refine wp_goto (pc' := 7) d_Jl_indexOfChar_28 (by decide) ?_
        rw [if_neg (fun y => h19 ((i_b2c hb hc).mpr (ec.symm.trans y)))] at e
        exact ih (i + 1) (by omega) e
      · refine wp_iload d_Jl_indexOfChar_22 rfl ?_
        refine wp_reti d_Jl_indexOfChar_24 rt_Jl_indexOfChar ?_
        rw [if_pos (ec.trans ((i_b2c hb hc).mp h19))] at e
        rw [← e] at K
        exact K
  refine cl_in ml_Jl_indexOfChar rfl rfl ?_
  refine wp_iload_n d_Jl_indexOfChar_0 rfl rfl ?_
  refine wp_i2b d_Jl_indexOfChar_1 (rfl) ?_
  refine wp_isto4 d_Jl_indexOfChar_2 rfl ?_
  refine wp_iload_n d_Jl_indexOfChar_4 rfl rfl ?_
  refine wp_isto5 d_Jl_indexOfChar_5 rfl ?_
  exact loop T.length 0 (Nat.zero_add _) rfl
theorem c_ix0 {b : Nat} (hb : b < 256) (K : Q (some (.int (sp_xo (nI b) [110, 116, 102] 3 0))) S) : cl h_Js_indexOf y_Js_indexOf [.ref 10000, .int (nI b)] S Q := by
  have hT : sp_as [110, 116, 102] := by
    have h : ∀ j : Fin 3, ∃ c, c < 128 ∧ ([110, 116, 102] : List Int32).getD j.val 0 = nI c := by
      intro j
      match j with
      | ⟨0, _⟩ => exact ⟨110, by decide, rfl⟩
      | ⟨1, _⟩ => exact ⟨116, by decide, rfl⟩
      | ⟨2, _⟩ => exact ⟨102, by decide, rfl⟩
    exact fun j hj => h ⟨j, hj⟩
  have hL1 : ∀ Q : Option Value → wp_S → Prop, Q (some (.int (nI 1))) S → cl h_Js_isLatin1 y_Js_isLatin1 [.ref 10000] S Q := by
    intro Q K
    refine cl_in ml_Js_isLatin1 rfl rfl ?_
    refine wp_getstatic (v := (.int (nI 1), _, _)) d_Js_isLatin1_0 ow_Js_isLatin1 gs_10_38 ?_
    refine wp_ifN_eq (pc' := 17) d_Js_isLatin1_3 (by decide) (by omega) (fun q => absurd q (by decide)) (fun _ => ?_)
    refine wp_aload_n d_Js_isLatin1_6 rfl rfl ?_
    refine wp_getfield (v := .int (nI 0)) d_Js_isLatin1_7 ow_Js_isLatin1 fl_10_15 rfl ?_
    refine wp_ifN_ne (pc' := 17) d_Js_isLatin1_10 (by decide) (by omega) (fun q => absurd q (by decide)) (fun _ => ?_)
    refine wp_iconst (x := nI 1) d_Js_isLatin1_13 rfl ?_
    refine wp_goto (pc' := 18) d_Js_isLatin1_14 (by decide) ?_
    refine wp_retz d_Js_isLatin1_18 rt_Js_isLatin1 (by first | exact Or.inl rfl | exact Or.inr rfl) ?_
    exact K
  have hCo : ∀ Q : Option Value → wp_S → Prop, Q (some (.int (nI 0))) S → cl h_Js_coder y_Js_coder [.ref 10000] S Q := by
    intro Q K
    refine cl_in ml_Js_coder rfl rfl ?_
    refine wp_getstatic (v := (.int (nI 1), _, _)) d_Js_coder_0 ow_Js_coder gs_10_38 ?_
    refine wp_ifN_eq (pc' := 13) d_Js_coder_3 (by decide) (by omega) (fun q => absurd q (by decide)) (fun _ => ?_)
    refine wp_aload_n d_Js_coder_6 rfl rfl ?_
    refine wp_getfield (v := .int (nI 0)) d_Js_coder_7 ow_Js_coder fl_10_15 rfl ?_
    refine wp_goto (pc' := 14) d_Js_coder_10 (by decide) ?_
    refine wp_ireturn d_Js_coder_14 rt_Js_coder ⟨Or.inr (Or.inr rfl), rfl⟩ ?_
    exact K
  have hLe : ∀ Q : Option Value → wp_S → Prop, Q (some (.int (nI 3))) S → cl h_Js_length y_Js_length [.ref 10000] S Q := by
    intro Q K
    refine cl_in ml_Js_length rfl rfl ?_
    refine wp_aload_n d_Js_length_0 rfl rfl ?_
    refine wp_getfield (v := .ref 11000) d_Js_length_1 ow_Js_length fl_10_9 rfl ?_
    refine wp_arraylength (n := 3) d_Js_length_4 rfl ?_
    refine wp_aload_n d_Js_length_5 rfl rfl ?_
    refine wp_invV d_Js_length_6 ow_Js_length lk_10_335 (by decide) mi_Js_coder rfl rfl (Nat.le_of_ble_eq_true rfl) rfl rfl (show h_Js_coder ≤ _ from by decide) (hCo _ ?_)
    refine wp_Ki ?_
    refine wp_ishr d_Js_length_9 ((by decide : nI 3 >>> (nI 0 &&& 31) = nI 3)) ?_
    refine wp_reti d_Js_length_10 rt_Js_length ?_
    exact K
  have hCa : ∀ Q : Option Value → wp_S → Prop, Q (some (.int (nI 1))) S → cl h_Jl_canEncode y_Jl_canEncode [.int (nI b)] S Q := by
    intro Q K
    refine cl_in ml_Jl_canEncode rfl rfl ?_
    refine wp_iload_n d_Jl_canEncode_0 rfl rfl ?_
    refine wp_ifN_lt (pc' := 15) d_Jl_canEncode_1 (by decide) (by omega) ?_
    refine wp_iload_n d_Jl_canEncode_4 rfl rfl ?_
    refine wp_sipush (x := nI 255) d_Jl_canEncode_5 (by decide) ?_
    refine wp_icN_gt (pc' := 15) d_Jl_canEncode_8 (by decide) (by omega) (by omega) (fun h8 => absurd h8 (by omega)) (fun h8 => ?_)
    refine wp_iconst (x := nI 1) d_Jl_canEncode_11 rfl ?_
    refine wp_goto (pc' := 16) d_Jl_canEncode_12 (by decide) ?_
    refine wp_retz d_Jl_canEncode_16 rt_Jl_canEncode (by first | exact Or.inl rfl | exact Or.inr rfl) ?_
    exact K
  have hIx : ∀ Q : Option Value → wp_S → Prop, Q (some (.int (sp_xo (nI b) [110, 116, 102] 3 0))) S → cl h_Jl_indexOf y_Jl_indexOf [.ref 11000, .int (nI b), .int (nI 0), .int (nI 3)] S Q := by
    intro Q K
    refine cl_in ml_Jl_indexOf rfl rfl ?_
    refine wp_iload_n d_Jl_indexOf_0 rfl rfl ?_
    refine wp_invS d_Jl_indexOf_1 ow_Jl_indexOf lk_11_88 (by decide) mi_Jl_canEncode rfl rfl (Nat.le_of_ble_eq_true rfl) rfl (show h_Jl_canEncode ≤ _ from by decide) (hCa _ ?_)
    refine wp_Ki ?_
    refine wp_ifN_ne (pc' := 9) d_Jl_indexOf_4 (by decide) (by omega) (fun _ => ?_) (fun q => absurd q (by decide))
    refine wp_iload_n d_Jl_indexOf_9 rfl rfl ?_
    refine wp_iconst (x := nI 0) d_Jl_indexOf_10 rfl ?_
    refine wp_mmax d_Jl_indexOf_11 ow_Jl_indexOf lk_11_92 rfl ((by decide : (if nI 0 < nI 0 then nI 0 else nI 0) = nI 0)) ?_
    refine wp_iston2 d_Jl_indexOf_14 rfl ?_
    refine wp_iload_n d_Jl_indexOf_15 rfl rfl ?_
    refine wp_aload_n d_Jl_indexOf_16 rfl rfl ?_
    refine wp_arraylength (n := 3) d_Jl_indexOf_17 rfl ?_
    refine wp_mmin d_Jl_indexOf_18 ow_Jl_indexOf lk_11_38 rfl ((by decide : (if nI 3 < nI 3 then nI 3 else nI 3) = nI 3)) ?_
    refine wp_iston3 d_Jl_indexOf_21 rfl ?_
    refine wp_iload_n d_Jl_indexOf_22 rfl rfl ?_
    refine wp_iload_n d_Jl_indexOf_23 rfl rfl ?_
    refine wp_icN_lt (pc' := 29) d_Jl_indexOf_24 (by decide) (by omega) (by omega) (fun _ => ?_) (fun q => absurd q (by decide))
    refine wp_aload_n d_Jl_indexOf_29 rfl rfl ?_
    refine wp_iload_n d_Jl_indexOf_30 rfl rfl ?_
    refine wp_iload_n d_Jl_indexOf_31 rfl rfl ?_
    refine wp_iload_n d_Jl_indexOf_32 rfl rfl ?_
    refine wp_invS d_Jl_indexOf_33 ow_Jl_indexOf lk_11_95 (by decide) mi_Jl_indexOfChar rfl rfl (Nat.le_of_ble_eq_true rfl) rfl (show h_Jl_indexOfChar ≤ _ from by decide) (c_ixc (T := [110, 116, 102]) rfl (by decide) hT hb ?_)
    refine wp_Ki ?_
    refine wp_reti d_Jl_indexOf_36 rt_Jl_indexOf ?_
    exact K
  have hI2 : ∀ Q : Option Value → wp_S → Prop, Q (some (.int (sp_xo (nI b) [110, 116, 102] 3 0))) S → cl h_Js_indexOf2 y_Js_indexOf2 [.ref 10000, .int (nI b), .int (nI 0)] S Q := by
    intro Q K
    refine cl_in ml_Js_indexOf2 rfl rfl ?_
    refine wp_aload_n d_Js_indexOf2_0 rfl rfl ?_
    refine wp_invV d_Js_indexOf2_1 ow_Js_indexOf2 lk_10_492 (by decide) mi_Js_isLatin1 rfl rfl (Nat.le_of_ble_eq_true rfl) rfl rfl (show h_Js_isLatin1 ≤ _ from by decide) (hL1 _ ?_)
    refine wp_Ki ?_
    refine wp_ifN_eq (pc' := 23) d_Js_indexOf2_4 (by decide) (by omega) (fun q => absurd q (by decide)) (fun _ => ?_)
    refine wp_aload_n d_Js_indexOf2_7 rfl rfl ?_
    refine wp_getfield (v := .ref 11000) d_Js_indexOf2_8 ow_Js_indexOf2 fl_10_9 rfl ?_
    refine wp_iload_n d_Js_indexOf2_11 rfl rfl ?_
    refine wp_iload_n d_Js_indexOf2_12 rfl rfl ?_
    refine wp_aload_n d_Js_indexOf2_13 rfl rfl ?_
    refine wp_invV d_Js_indexOf2_14 ow_Js_indexOf2 lk_10_505 (by decide) mi_Js_length rfl rfl (Nat.le_of_ble_eq_true rfl) rfl rfl (show h_Js_length ≤ _ from by decide) (hLe _ ?_)
    refine wp_Ki ?_
    refine wp_invS d_Js_indexOf2_17 ow_Js_indexOf2 lk_10_637 (by decide) mi_Jl_indexOf rfl rfl (Nat.le_of_ble_eq_true rfl) rfl (show h_Jl_indexOf ≤ _ from by decide) (hIx _ ?_)
    refine wp_Ki ?_
    refine wp_goto (pc' := 36) d_Js_indexOf2_20 (by decide) ?_
    refine wp_reti d_Js_indexOf2_36 rt_Js_indexOf2 ?_
    exact K
  refine cl_in ml_Js_indexOf rfl rfl ?_
  refine wp_aload_n d_Js_indexOf_0 rfl rfl ?_
  refine wp_iload_n d_Js_indexOf_1 rfl rfl ?_
  refine wp_iconst (x := nI 0) d_Js_indexOf_2 rfl ?_
  refine wp_invV d_Js_indexOf_3 ow_Js_indexOf lk_10_633 (by decide) mi_Js_indexOf2 rfl rfl (Nat.le_of_ble_eq_true rfl) rfl rfl (show h_Js_indexOf2 ≤ _ from by decide) (hI2 _ ?_)
  refine wp_Ki ?_
  refine wp_reti d_Js_indexOf_6 rt_Js_indexOf ?_
  exact K
theorem c_ix1 {b : Nat} (hb : b < 256) (K : Q (some (.int (sp_xo (nI b) [97, 110, 109] 3 0))) S) : cl h_Js_indexOf y_Js_indexOf [.ref 10001, .int (nI b)] S Q := by
  have hT : sp_as [97, 110, 109] := by
    have h : ∀ j : Fin 3, ∃ c, c < 128 ∧ ([97, 110, 109] : List Int32).getD j.val 0 = nI c := by
      intro j
      match j with
      | ⟨0, _⟩ => exact ⟨97, by decide, rfl⟩
      | ⟨1, _⟩ => exact ⟨110, by decide, rfl⟩
      | ⟨2, _⟩ => exact ⟨109, by decide, rfl⟩
    exact fun j hj => h ⟨j, hj⟩
  have hL1 : ∀ Q : Option Value → wp_S → Prop, Q (some (.int (nI 1))) S → cl h_Js_isLatin1 y_Js_isLatin1 [.ref 10001] S Q := by
    intro Q K
    refine cl_in ml_Js_isLatin1 rfl rfl ?_
    refine wp_getstatic (v := (.int (nI 1), _, _)) d_Js_isLatin1_0 ow_Js_isLatin1 gs_10_38 ?_
    refine wp_ifN_eq (pc' := 17) d_Js_isLatin1_3 (by decide) (by omega) (fun q => absurd q (by decide)) (fun _ => ?_)
    refine wp_aload_n d_Js_isLatin1_6 rfl rfl ?_
    refine wp_getfield (v := .int (nI 0)) d_Js_isLatin1_7 ow_Js_isLatin1 fl_10_15 rfl ?_
    refine wp_ifN_ne (pc' := 17) d_Js_isLatin1_10 (by decide) (by omega) (fun q => absurd q (by decide)) (fun _ => ?_)
    refine wp_iconst (x := nI 1) d_Js_isLatin1_13 rfl ?_
    refine wp_goto (pc' := 18) d_Js_isLatin1_14 (by decide) ?_
    refine wp_retz d_Js_isLatin1_18 rt_Js_isLatin1 (by first | exact Or.inl rfl | exact Or.inr rfl) ?_
    exact K
  have hCo : ∀ Q : Option Value → wp_S → Prop, Q (some (.int (nI 0))) S → cl h_Js_coder y_Js_coder [.ref 10001] S Q := by
    intro Q K
    refine cl_in ml_Js_coder rfl rfl ?_
    refine wp_getstatic (v := (.int (nI 1), _, _)) d_Js_coder_0 ow_Js_coder gs_10_38 ?_
    refine wp_ifN_eq (pc' := 13) d_Js_coder_3 (by decide) (by omega) (fun q => absurd q (by decide)) (fun _ => ?_)
    refine wp_aload_n d_Js_coder_6 rfl rfl ?_
    refine wp_getfield (v := .int (nI 0)) d_Js_coder_7 ow_Js_coder fl_10_15 rfl ?_
    refine wp_goto (pc' := 14) d_Js_coder_10 (by decide) ?_
    refine wp_ireturn d_Js_coder_14 rt_Js_coder ⟨Or.inr (Or.inr rfl), rfl⟩ ?_
    exact K
  have hLe : ∀ Q : Option Value → wp_S → Prop, Q (some (.int (nI 3))) S → cl h_Js_length y_Js_length [.ref 10001] S Q := by
    intro Q K
    refine cl_in ml_Js_length rfl rfl ?_
    refine wp_aload_n d_Js_length_0 rfl rfl ?_
    refine wp_getfield (v := .ref 11001) d_Js_length_1 ow_Js_length fl_10_9 rfl ?_
    refine wp_arraylength (n := 3) d_Js_length_4 rfl ?_
    refine wp_aload_n d_Js_length_5 rfl rfl ?_
    refine wp_invV d_Js_length_6 ow_Js_length lk_10_335 (by decide) mi_Js_coder rfl rfl (Nat.le_of_ble_eq_true rfl) rfl rfl (show h_Js_coder ≤ _ from by decide) (hCo _ ?_)
    refine wp_Ki ?_
    refine wp_ishr d_Js_length_9 ((by decide : nI 3 >>> (nI 0 &&& 31) = nI 3)) ?_
    refine wp_reti d_Js_length_10 rt_Js_length ?_
    exact K
  have hCa : ∀ Q : Option Value → wp_S → Prop, Q (some (.int (nI 1))) S → cl h_Jl_canEncode y_Jl_canEncode [.int (nI b)] S Q := by
    intro Q K
    refine cl_in ml_Jl_canEncode rfl rfl ?_
    refine wp_iload_n d_Jl_canEncode_0 rfl rfl ?_
    refine wp_ifN_lt (pc' := 15) d_Jl_canEncode_1 (by decide) (by omega) ?_
    refine wp_iload_n d_Jl_canEncode_4 rfl rfl ?_
    refine wp_sipush (x := nI 255) d_Jl_canEncode_5 (by decide) ?_
    refine wp_icN_gt (pc' := 15) d_Jl_canEncode_8 (by decide) (by omega) (by omega) (fun h8 => absurd h8 (by omega)) (fun h8 => ?_)
    refine wp_iconst (x := nI 1) d_Jl_canEncode_11 rfl ?_
    refine wp_goto (pc' := 16) d_Jl_canEncode_12 (by decide) ?_
    refine wp_retz d_Jl_canEncode_16 rt_Jl_canEncode (by first | exact Or.inl rfl | exact Or.inr rfl) ?_
    exact K
  have hIx : ∀ Q : Option Value → wp_S → Prop, Q (some (.int (sp_xo (nI b) [97, 110, 109] 3 0))) S → cl h_Jl_indexOf y_Jl_indexOf [.ref 11001, .int (nI b), .int (nI 0), .int (nI 3)] S Q := by
    intro Q K
    refine cl_in ml_Jl_indexOf rfl rfl ?_
    refine wp_iload_n d_Jl_indexOf_0 rfl rfl ?_
    refine wp_invS d_Jl_indexOf_1 ow_Jl_indexOf lk_11_88 (by decide) mi_Jl_canEncode rfl rfl (Nat.le_of_ble_eq_true rfl) rfl (show h_Jl_canEncode ≤ _ from by decide) (hCa _ ?_)
    refine wp_Ki ?_
    refine wp_ifN_ne (pc' := 9) d_Jl_indexOf_4 (by decide) (by omega) (fun _ => ?_) (fun q => absurd q (by decide))
    refine wp_iload_n d_Jl_indexOf_9 rfl rfl ?_
    refine wp_iconst (x := nI 0) d_Jl_indexOf_10 rfl ?_
    refine wp_mmax d_Jl_indexOf_11 ow_Jl_indexOf lk_11_92 rfl ((by decide : (if nI 0 < nI 0 then nI 0 else nI 0) = nI 0)) ?_
    refine wp_iston2 d_Jl_indexOf_14 rfl ?_
    refine wp_iload_n d_Jl_indexOf_15 rfl rfl ?_
    refine wp_aload_n d_Jl_indexOf_16 rfl rfl ?_
    refine wp_arraylength (n := 3) d_Jl_indexOf_17 rfl ?_
    refine wp_mmin d_Jl_indexOf_18 ow_Jl_indexOf lk_11_38 rfl ((by decide : (if nI 3 < nI 3 then nI 3 else nI 3) = nI 3)) ?_
    refine wp_iston3 d_Jl_indexOf_21 rfl ?_
    refine wp_iload_n d_Jl_indexOf_22 rfl rfl ?_
    refine wp_iload_n d_Jl_indexOf_23 rfl rfl ?_
    refine wp_icN_lt (pc' := 29) d_Jl_indexOf_24 (by decide) (by omega) (by omega) (fun _ => ?_) (fun q => absurd q (by decide))
    refine wp_aload_n d_Jl_indexOf_29 rfl rfl ?_
    refine wp_iload_n d_Jl_indexOf_30 rfl rfl ?_
    refine wp_iload_n d_Jl_indexOf_31 rfl rfl ?_
    refine wp_iload_n d_Jl_indexOf_32 rfl rfl ?_
    refine wp_invS d_Jl_indexOf_33 ow_Jl_indexOf lk_11_95 (by decide) mi_Jl_indexOfChar rfl rfl (Nat.le_of_ble_eq_true rfl) rfl (show h_Jl_indexOfChar ≤ _ from by decide) (c_ixc (T := [97, 110, 109]) rfl (by decide) hT hb ?_)
    refine wp_Ki ?_
    refine wp_reti d_Jl_indexOf_36 rt_Jl_indexOf ?_
    exact K
  have hI2 : ∀ Q : Option Value → wp_S → Prop, Q (some (.int (sp_xo (nI b) [97, 110, 109] 3 0))) S → cl h_Js_indexOf2 y_Js_indexOf2 [.ref 10001, .int (nI b), .int (nI 0)] S Q := by
    intro Q K
    refine cl_in ml_Js_indexOf2 rfl rfl ?_
    refine wp_aload_n d_Js_indexOf2_0 rfl rfl ?_
    refine wp_invV d_Js_indexOf2_1 ow_Js_indexOf2 lk_10_492 (by decide) mi_Js_isLatin1 rfl rfl (Nat.le_of_ble_eq_true rfl) rfl rfl (show h_Js_isLatin1 ≤ _ from by decide) (hL1 _ ?_)
    refine wp_Ki ?_
    refine wp_ifN_eq (pc' := 23) d_Js_indexOf2_4 (by decide) (by omega) (fun q => absurd q (by decide)) (fun _ => ?_)
    refine wp_aload_n d_Js_indexOf2_7 rfl rfl ?_
    refine wp_getfield (v := .ref 11001) d_Js_indexOf2_8 ow_Js_indexOf2 fl_10_9 rfl ?_
    refine wp_iload_n d_Js_indexOf2_11 rfl rfl ?_
    refine wp_iload_n d_Js_indexOf2_12 rfl rfl ?_
    refine wp_aload_n d_Js_indexOf2_13 rfl rfl ?_
    refine wp_invV d_Js_indexOf2_14 ow_Js_indexOf2 lk_10_505 (by decide) mi_Js_length rfl rfl (Nat.le_of_ble_eq_true rfl) rfl rfl (show h_Js_length ≤ _ from by decide) (hLe _ ?_)
    refine wp_Ki ?_
    refine wp_invS d_Js_indexOf2_17 ow_Js_indexOf2 lk_10_637 (by decide) mi_Jl_indexOf rfl rfl (Nat.le_of_ble_eq_true rfl) rfl (show h_Jl_indexOf ≤ _ from by decide) (hIx _ ?_)
    refine wp_Ki ?_
    refine wp_goto (pc' := 36) d_Js_indexOf2_20 (by decide) ?_
    refine wp_reti d_Js_indexOf2_36 rt_Js_indexOf2 ?_
    exact K
  refine cl_in ml_Js_indexOf rfl rfl ?_
  refine wp_aload_n d_Js_indexOf_0 rfl rfl ?_
  refine wp_iload_n d_Js_indexOf_1 rfl rfl ?_
  refine wp_iconst (x := nI 0) d_Js_indexOf_2 rfl ?_
  refine wp_invV d_Js_indexOf_3 ow_Js_indexOf lk_10_633 (by decide) mi_Js_indexOf2 rfl rfl (Nat.le_of_ble_eq_true rfl) rfl rfl (show h_Js_indexOf2 ≤ _ from by decide) (hI2 _ ?_)
  refine wp_Ki ?_
  refine wp_reti d_Js_indexOf_6 rt_Js_indexOf ?_
  exact K
theorem c_ix3 {b : Nat} (hb : b < 256) (K : Q (some (.int (sp_xo (nI b) [48, 49, 50, 51, 52, 53, 54, 55, 56, 57] 10 0))) S) : cl h_Js_indexOf y_Js_indexOf [.ref 10003, .int (nI b)] S Q := by
  have hT : sp_as [48, 49, 50, 51, 52, 53, 54, 55, 56, 57] := by
    have h : ∀ j : Fin 10, ∃ c, c < 128 ∧ ([48, 49, 50, 51, 52, 53, 54, 55, 56, 57] : List Int32).getD j.val 0 = nI c := by
      intro j
      match j with
      | ⟨0, _⟩ => exact ⟨48, by decide, rfl⟩
      | ⟨1, _⟩ => exact ⟨49, by decide, rfl⟩
      | ⟨2, _⟩ => exact ⟨50, by decide, rfl⟩
      | ⟨3, _⟩ => exact ⟨51, by decide, rfl⟩
      | ⟨4, _⟩ => exact ⟨52, by decide, rfl⟩
      | ⟨5, _⟩ => exact ⟨53, by decide, rfl⟩
      | ⟨6, _⟩ => exact ⟨54, by decide, rfl⟩
      | ⟨7, _⟩ => exact ⟨55, by decide, rfl⟩
      | ⟨8, _⟩ => exact ⟨56, by decide, rfl⟩
      | ⟨9, _⟩ => exact ⟨57, by decide, rfl⟩
    exact fun j hj => h ⟨j, hj⟩
  have hL1 : ∀ Q : Option Value → wp_S → Prop, Q (some (.int (nI 1))) S → cl h_Js_isLatin1 y_Js_isLatin1 [.ref 10003] S Q := by
    intro Q K
    refine cl_in ml_Js_isLatin1 rfl rfl ?_
    refine wp_getstatic (v := (.int (nI 1), _, _)) d_Js_isLatin1_0 ow_Js_isLatin1 gs_10_38 ?_
    refine wp_ifN_eq (pc' := 17) d_Js_isLatin1_3 (by decide) (by omega) (fun q => absurd q (by decide)) (fun _ => ?_)
    refine wp_aload_n d_Js_isLatin1_6 rfl rfl ?_
    refine wp_getfield (v := .int (nI 0)) d_Js_isLatin1_7 ow_Js_isLatin1 fl_10_15 rfl ?_
    refine wp_ifN_ne (pc' := 17) d_Js_isLatin1_10 (by decide) (by omega) (fun q => absurd q (by decide)) (fun _ => ?_)
    refine wp_iconst (x := nI 1) d_Js_isLatin1_13 rfl ?_
    refine wp_goto (pc' := 18) d_Js_isLatin1_14 (by decide) ?_
    refine wp_retz d_Js_isLatin1_18 rt_Js_isLatin1 (by first | exact Or.inl rfl | exact Or.inr rfl) ?_
    exact K
  have hCo : ∀ Q : Option Value → wp_S → Prop, Q (some (.int (nI 0))) S → cl h_Js_coder y_Js_coder [.ref 10003] S Q := by
    intro Q K
    refine cl_in ml_Js_coder rfl rfl ?_
    refine wp_getstatic (v := (.int (nI 1), _, _)) d_Js_coder_0 ow_Js_coder gs_10_38 ?_
    refine wp_ifN_eq (pc' := 13) d_Js_coder_3 (by decide) (by omega) (fun q => absurd q (by decide)) (fun _ => ?_)
    refine wp_aload_n d_Js_coder_6 rfl rfl ?_
    refine wp_getfield (v := .int (nI 0)) d_Js_coder_7 ow_Js_coder fl_10_15 rfl ?_
    refine wp_goto (pc' := 14) d_Js_coder_10 (by decide) ?_
    refine wp_ireturn d_Js_coder_14 rt_Js_coder ⟨Or.inr (Or.inr rfl), rfl⟩ ?_
    exact K
  have hLe : ∀ Q : Option Value → wp_S → Prop, Q (some (.int (nI 10))) S → cl h_Js_length y_Js_length [.ref 10003] S Q := by
    intro Q K
    refine cl_in ml_Js_length rfl rfl ?_
    refine wp_aload_n d_Js_length_0 rfl rfl ?_
    refine wp_getfield (v := .ref 11003) d_Js_length_1 ow_Js_length fl_10_9 rfl ?_
    refine wp_arraylength (n := 10) d_Js_length_4 rfl ?_
    refine wp_aload_n d_Js_length_5 rfl rfl ?_
    refine wp_invV d_Js_length_6 ow_Js_length lk_10_335 (by decide) mi_Js_coder rfl rfl (Nat.le_of_ble_eq_true rfl) rfl rfl (show h_Js_coder ≤ _ from by decide) (hCo _ ?_)
    refine wp_Ki ?_
    refine wp_ishr d_Js_length_9 ((by decide : nI 10 >>> (nI 0 &&& 31) = nI 10)) ?_
    refine wp_reti d_Js_length_10 rt_Js_length ?_
    exact K
  have hCa : ∀ Q : Option Value → wp_S → Prop, Q (some (.int (nI 1))) S → cl h_Jl_canEncode y_Jl_canEncode [.int (nI b)] S Q := by
    intro Q K
    refine cl_in ml_Jl_canEncode rfl rfl ?_
    refine wp_iload_n d_Jl_canEncode_0 rfl rfl ?_
    refine wp_ifN_lt (pc' := 15) d_Jl_canEncode_1 (by decide) (by omega) ?_
    refine wp_iload_n d_Jl_canEncode_4 rfl rfl ?_
    refine wp_sipush (x := nI 255) d_Jl_canEncode_5 (by decide) ?_
    refine wp_icN_gt (pc' := 15) d_Jl_canEncode_8 (by decide) (by omega) (by omega) (fun h8 => absurd h8 (by omega)) (fun h8 => ?_)
    refine wp_iconst (x := nI 1) d_Jl_canEncode_11 rfl ?_
    refine wp_goto (pc' := 16) d_Jl_canEncode_12 (by decide) ?_
    refine wp_retz d_Jl_canEncode_16 rt_Jl_canEncode (by first | exact Or.inl rfl | exact Or.inr rfl) ?_
    exact K
  have hIx : ∀ Q : Option Value → wp_S → Prop, Q (some (.int (sp_xo (nI b) [48, 49, 50, 51, 52, 53, 54, 55, 56, 57] 10 0))) S → cl h_Jl_indexOf y_Jl_indexOf [.ref 11003, .int (nI b), .int (nI 0), .int (nI 10)] S Q := by
    intro Q K
    refine cl_in ml_Jl_indexOf rfl rfl ?_
    refine wp_iload_n d_Jl_indexOf_0 rfl rfl ?_
    refine wp_invS d_Jl_indexOf_1 ow_Jl_indexOf lk_11_88 (by decide) mi_Jl_canEncode rfl rfl (Nat.le_of_ble_eq_true rfl) rfl (show h_Jl_canEncode ≤ _ from by decide) (hCa _ ?_)
    refine wp_Ki ?_
    refine wp_ifN_ne (pc' := 9) d_Jl_indexOf_4 (by decide) (by omega) (fun _ => ?_) (fun q => absurd q (by decide))
    refine wp_iload_n d_Jl_indexOf_9 rfl rfl ?_
    refine wp_iconst (x := nI 0) d_Jl_indexOf_10 rfl ?_
    refine wp_mmax d_Jl_indexOf_11 ow_Jl_indexOf lk_11_92 rfl ((by decide : (if nI 0 < nI 0 then nI 0 else nI 0) = nI 0)) ?_
    refine wp_iston2 d_Jl_indexOf_14 rfl ?_
    refine wp_iload_n d_Jl_indexOf_15 rfl rfl ?_
    refine wp_aload_n d_Jl_indexOf_16 rfl rfl ?_
    refine wp_arraylength (n := 10) d_Jl_indexOf_17 rfl ?_
    refine wp_mmin d_Jl_indexOf_18 ow_Jl_indexOf lk_11_38 rfl ((by decide : (if nI 10 < nI 10 then nI 10 else nI 10) = nI 10)) ?_
    refine wp_iston3 d_Jl_indexOf_21 rfl ?_
    refine wp_iload_n d_Jl_indexOf_22 rfl rfl ?_
    refine wp_iload_n d_Jl_indexOf_23 rfl rfl ?_
    refine wp_icN_lt (pc' := 29) d_Jl_indexOf_24 (by decide) (by omega) (by omega) (fun _ => ?_) (fun q => absurd q (by decide))
    refine wp_aload_n d_Jl_indexOf_29 rfl rfl ?_
    refine wp_iload_n d_Jl_indexOf_30 rfl rfl ?_
    refine wp_iload_n d_Jl_indexOf_31 rfl rfl ?_
    refine wp_iload_n d_Jl_indexOf_32 rfl rfl ?_
    refine wp_invS d_Jl_indexOf_33 ow_Jl_indexOf lk_11_95 (by decide) mi_Jl_indexOfChar rfl rfl (Nat.le_of_ble_eq_true rfl) rfl (show h_Jl_indexOfChar ≤ _ from by decide) (c_ixc (T := [48, 49, 50, 51, 52, 53, 54, 55, 56, 57]) rfl (by decide) hT hb ?_)
    refine wp_Ki ?_
    refine wp_reti d_Jl_indexOf_36 rt_Jl_indexOf ?_
    exact K
  have hI2 : ∀ Q : Option Value → wp_S → Prop, Q (some (.int (sp_xo (nI b) [48, 49, 50, 51, 52, 53, 54, 55, 56, 57] 10 0))) S → cl h_Js_indexOf2 y_Js_indexOf2 [.ref 10003, .int (nI b), .int (nI 0)] S Q := by
    intro Q K
    refine cl_in ml_Js_indexOf2 rfl rfl ?_
    refine wp_aload_n d_Js_indexOf2_0 rfl rfl ?_
    refine wp_invV d_Js_indexOf2_1 ow_Js_indexOf2 lk_10_492 (by decide) mi_Js_isLatin1 rfl rfl (Nat.le_of_ble_eq_true rfl) rfl rfl (show h_Js_isLatin1 ≤ _ from by decide) (hL1 _ ?_)
    refine wp_Ki ?_
    refine wp_ifN_eq (pc' := 23) d_Js_indexOf2_4 (by decide) (by omega) (fun q => absurd q (by decide)) (fun _ => ?_)
    refine wp_aload_n d_Js_indexOf2_7 rfl rfl ?_
    refine wp_getfield (v := .ref 11003) d_Js_indexOf2_8 ow_Js_indexOf2 fl_10_9 rfl ?_
    refine wp_iload_n d_Js_indexOf2_11 rfl rfl ?_
    refine wp_iload_n d_Js_indexOf2_12 rfl rfl ?_
    refine wp_aload_n d_Js_indexOf2_13 rfl rfl ?_
    refine wp_invV d_Js_indexOf2_14 ow_Js_indexOf2 lk_10_505 (by decide) mi_Js_length rfl rfl (Nat.le_of_ble_eq_true rfl) rfl rfl (show h_Js_length ≤ _ from by decide) (hLe _ ?_)
    refine wp_Ki ?_
    refine wp_invS d_Js_indexOf2_17 ow_Js_indexOf2 lk_10_637 (by decide) mi_Jl_indexOf rfl rfl (Nat.le_of_ble_eq_true rfl) rfl (show h_Jl_indexOf ≤ _ from by decide) (hIx _ ?_)
    refine wp_Ki ?_
    refine wp_goto (pc' := 36) d_Js_indexOf2_20 (by decide) ?_
    refine wp_reti d_Js_indexOf2_36 rt_Js_indexOf2 ?_
    exact K
  refine cl_in ml_Js_indexOf rfl rfl ?_
  refine wp_aload_n d_Js_indexOf_0 rfl rfl ?_
  refine wp_iload_n d_Js_indexOf_1 rfl rfl ?_
  refine wp_iconst (x := nI 0) d_Js_indexOf_2 rfl ?_
  refine wp_invV d_Js_indexOf_3 ow_Js_indexOf lk_10_633 (by decide) mi_Js_indexOf2 rfl rfl (Nat.le_of_ble_eq_true rfl) rfl rfl (show h_Js_indexOf2 ≤ _ from by decide) (hI2 _ ?_)
  refine wp_Ki ?_
  refine wp_reti d_Js_indexOf_6 rt_Js_indexOf ?_
  exact K
theorem c_ix4 {b : Nat} (hb : b < 256) (K : Q (some (.int (sp_xo (nI b) [33, 40] 2 0))) S) : cl h_Js_indexOf y_Js_indexOf [.ref 10004, .int (nI b)] S Q := by
  have hT : sp_as [33, 40] := by
    have h : ∀ j : Fin 2, ∃ c, c < 128 ∧ ([33, 40] : List Int32).getD j.val 0 = nI c := by
      intro j
      match j with
      | ⟨0, _⟩ => exact ⟨33, by decide, rfl⟩
      | ⟨1, _⟩ => exact ⟨40, by decide, rfl⟩
    exact fun j hj => h ⟨j, hj⟩
  have hL1 : ∀ Q : Option Value → wp_S → Prop, Q (some (.int (nI 1))) S → cl h_Js_isLatin1 y_Js_isLatin1 [.ref 10004] S Q := by
    intro Q K
    refine cl_in ml_Js_isLatin1 rfl rfl ?_
    refine wp_getstatic (v := (.int (nI 1), _, _)) d_Js_isLatin1_0 ow_Js_isLatin1 gs_10_38 ?_
    refine wp_ifN_eq (pc' := 17) d_Js_isLatin1_3 (by decide) (by omega) (fun q => absurd q (by decide)) (fun _ => ?_)
    refine wp_aload_n d_Js_isLatin1_6 rfl rfl ?_
    refine wp_getfield (v := .int (nI 0)) d_Js_isLatin1_7 ow_Js_isLatin1 fl_10_15 rfl ?_
    refine wp_ifN_ne (pc' := 17) d_Js_isLatin1_10 (by decide) (by omega) (fun q => absurd q (by decide)) (fun _ => ?_)
    refine wp_iconst (x := nI 1) d_Js_isLatin1_13 rfl ?_
    refine wp_goto (pc' := 18) d_Js_isLatin1_14 (by decide) ?_
    refine wp_retz d_Js_isLatin1_18 rt_Js_isLatin1 (by first | exact Or.inl rfl | exact Or.inr rfl) ?_
    exact K
  have hCo : ∀ Q : Option Value → wp_S → Prop, Q (some (.int (nI 0))) S → cl h_Js_coder y_Js_coder [.ref 10004] S Q := by
    intro Q K
    refine cl_in ml_Js_coder rfl rfl ?_
    refine wp_getstatic (v := (.int (nI 1), _, _)) d_Js_coder_0 ow_Js_coder gs_10_38 ?_
    refine wp_ifN_eq (pc' := 13) d_Js_coder_3 (by decide) (by omega) (fun q => absurd q (by decide)) (fun _ => ?_)
    refine wp_aload_n d_Js_coder_6 rfl rfl ?_
    refine wp_getfield (v := .int (nI 0)) d_Js_coder_7 ow_Js_coder fl_10_15 rfl ?_
    refine wp_goto (pc' := 14) d_Js_coder_10 (by decide) ?_
    refine wp_ireturn d_Js_coder_14 rt_Js_coder ⟨Or.inr (Or.inr rfl), rfl⟩ ?_
    exact K
  have hLe : ∀ Q : Option Value → wp_S → Prop, Q (some (.int (nI 2))) S → cl h_Js_length y_Js_length [.ref 10004] S Q := by
    intro Q K
    refine cl_in ml_Js_length rfl rfl ?_
    refine wp_aload_n d_Js_length_0 rfl rfl ?_
    refine wp_getfield (v := .ref 11004) d_Js_length_1 ow_Js_length fl_10_9 rfl ?_
    refine wp_arraylength (n := 2) d_Js_length_4 rfl ?_
    refine wp_aload_n d_Js_length_5 rfl rfl ?_
    refine wp_invV d_Js_length_6 ow_Js_length lk_10_335 (by decide) mi_Js_coder rfl rfl (Nat.le_of_ble_eq_true rfl) rfl rfl (show h_Js_coder ≤ _ from by decide) (hCo _ ?_)
    refine wp_Ki ?_
    refine wp_ishr d_Js_length_9 ((by decide : nI 2 >>> (nI 0 &&& 31) = nI 2)) ?_
    refine wp_reti d_Js_length_10 rt_Js_length ?_
    exact K
  have hCa : ∀ Q : Option Value → wp_S → Prop, Q (some (.int (nI 1))) S → cl h_Jl_canEncode y_Jl_canEncode [.int (nI b)] S Q := by
    intro Q K
    refine cl_in ml_Jl_canEncode rfl rfl ?_
    refine wp_iload_n d_Jl_canEncode_0 rfl rfl ?_
    refine wp_ifN_lt (pc' := 15) d_Jl_canEncode_1 (by decide) (by omega) ?_
    refine wp_iload_n d_Jl_canEncode_4 rfl rfl ?_
    refine wp_sipush (x := nI 255) d_Jl_canEncode_5 (by decide) ?_
    refine wp_icN_gt (pc' := 15) d_Jl_canEncode_8 (by decide) (by omega) (by omega) (fun h8 => absurd h8 (by omega)) (fun h8 => ?_)
    refine wp_iconst (x := nI 1) d_Jl_canEncode_11 rfl ?_
    refine wp_goto (pc' := 16) d_Jl_canEncode_12 (by decide) ?_
    refine wp_retz d_Jl_canEncode_16 rt_Jl_canEncode (by first | exact Or.inl rfl | exact Or.inr rfl) ?_
    exact K
  have hIx : ∀ Q : Option Value → wp_S → Prop, Q (some (.int (sp_xo (nI b) [33, 40] 2 0))) S → cl h_Jl_indexOf y_Jl_indexOf [.ref 11004, .int (nI b), .int (nI 0), .int (nI 2)] S Q := by
    intro Q K
    refine cl_in ml_Jl_indexOf rfl rfl ?_
    refine wp_iload_n d_Jl_indexOf_0 rfl rfl ?_
    refine wp_invS d_Jl_indexOf_1 ow_Jl_indexOf lk_11_88 (by decide) mi_Jl_canEncode rfl rfl (Nat.le_of_ble_eq_true rfl) rfl (show h_Jl_canEncode ≤ _ from by decide) (hCa _ ?_)
    refine wp_Ki ?_
    refine wp_ifN_ne (pc' := 9) d_Jl_indexOf_4 (by decide) (by omega) (fun _ => ?_) (fun q => absurd q (by decide))
    refine wp_iload_n d_Jl_indexOf_9 rfl rfl ?_
    refine wp_iconst (x := nI 0) d_Jl_indexOf_10 rfl ?_
    refine wp_mmax d_Jl_indexOf_11 ow_Jl_indexOf lk_11_92 rfl ((by decide : (if nI 0 < nI 0 then nI 0 else nI 0) = nI 0)) ?_
    refine wp_iston2 d_Jl_indexOf_14 rfl ?_
    refine wp_iload_n d_Jl_indexOf_15 rfl rfl ?_
    refine wp_aload_n d_Jl_indexOf_16 rfl rfl ?_
    refine wp_arraylength (n := 2) d_Jl_indexOf_17 rfl ?_
    refine wp_mmin d_Jl_indexOf_18 ow_Jl_indexOf lk_11_38 rfl ((by decide : (if nI 2 < nI 2 then nI 2 else nI 2) = nI 2)) ?_
    refine wp_iston3 d_Jl_indexOf_21 rfl ?_
    refine wp_iload_n d_Jl_indexOf_22 rfl rfl ?_
    refine wp_iload_n d_Jl_indexOf_23 rfl rfl ?_
    refine wp_icN_lt (pc' := 29) d_Jl_indexOf_24 (by decide) (by omega) (by omega) (fun _ => ?_) (fun q => absurd q (by decide))
    refine wp_aload_n d_Jl_indexOf_29 rfl rfl ?_
    refine wp_iload_n d_Jl_indexOf_30 rfl rfl ?_
    refine wp_iload_n d_Jl_indexOf_31 rfl rfl ?_
    refine wp_iload_n d_Jl_indexOf_32 rfl rfl ?_
    refine wp_invS d_Jl_indexOf_33 ow_Jl_indexOf lk_11_95 (by decide) mi_Jl_indexOfChar rfl rfl (Nat.le_of_ble_eq_true rfl) rfl (show h_Jl_indexOfChar ≤ _ from by decide) (c_ixc (T := [33, 40]) rfl (by decide) hT hb ?_)
    refine wp_Ki ?_
    refine wp_reti d_Jl_indexOf_36 rt_Jl_indexOf ?_
    exact K
  have hI2 : ∀ Q : Option Value → wp_S → Prop, Q (some (.int (sp_xo (nI b) [33, 40] 2 0))) S → cl h_Js_indexOf2 y_Js_indexOf2 [.ref 10004, .int (nI b), .int (nI 0)] S Q := by
    intro Q K
    refine cl_in ml_Js_indexOf2 rfl rfl ?_
    refine wp_aload_n d_Js_indexOf2_0 rfl rfl ?_
    refine wp_invV d_Js_indexOf2_1 ow_Js_indexOf2 lk_10_492 (by decide) mi_Js_isLatin1 rfl rfl (Nat.le_of_ble_eq_true rfl) rfl rfl (show h_Js_isLatin1 ≤ _ from by decide) (hL1 _ ?_)
    refine wp_Ki ?_
    refine wp_ifN_eq (pc' := 23) d_Js_indexOf2_4 (by decide) (by omega) (fun q => absurd q (by decide)) (fun _ => ?_)
    refine wp_aload_n d_Js_indexOf2_7 rfl rfl ?_
    refine wp_getfield (v := .ref 11004) d_Js_indexOf2_8 ow_Js_indexOf2 fl_10_9 rfl ?_
    refine wp_iload_n d_Js_indexOf2_11 rfl rfl ?_
    refine wp_iload_n d_Js_indexOf2_12 rfl rfl ?_
    refine wp_aload_n d_Js_indexOf2_13 rfl rfl ?_
    refine wp_invV d_Js_indexOf2_14 ow_Js_indexOf2 lk_10_505 (by decide) mi_Js_length rfl rfl (Nat.le_of_ble_eq_true rfl) rfl rfl (show h_Js_length ≤ _ from by decide) (hLe _ ?_)
    refine wp_Ki ?_
    refine wp_invS d_Js_indexOf2_17 ow_Js_indexOf2 lk_10_637 (by decide) mi_Jl_indexOf rfl rfl (Nat.le_of_ble_eq_true rfl) rfl (show h_Jl_indexOf ≤ _ from by decide) (hIx _ ?_)
    refine wp_Ki ?_
    refine wp_goto (pc' := 36) d_Js_indexOf2_20 (by decide) ?_
    refine wp_reti d_Js_indexOf2_36 rt_Js_indexOf2 ?_
    exact K
  refine cl_in ml_Js_indexOf rfl rfl ?_
  refine wp_aload_n d_Js_indexOf_0 rfl rfl ?_
  refine wp_iload_n d_Js_indexOf_1 rfl rfl ?_
  refine wp_iconst (x := nI 0) d_Js_indexOf_2 rfl ?_
  refine wp_invV d_Js_indexOf_3 ow_Js_indexOf lk_10_633 (by decide) mi_Js_indexOf2 rfl rfl (Nat.le_of_ble_eq_true rfl) rfl rfl (show h_Js_indexOf2 ≤ _ from by decide) (hI2 _ ?_)
  refine wp_Ki ?_
  refine wp_reti d_Js_indexOf_6 rt_Js_indexOf ?_
  exact K
theorem c_ix5 {b : Nat} (hb : b < 256) (K : Q (some (.int (sp_xo (nI b) [41] 1 0))) S) : cl h_Js_indexOf y_Js_indexOf [.ref 10005, .int (nI b)] S Q := by
  have hT : sp_as [41] := by
    have h : ∀ j : Fin 1, ∃ c, c < 128 ∧ ([41] : List Int32).getD j.val 0 = nI c := by
      intro j
      match j with
      | ⟨0, _⟩ => exact ⟨41, by decide, rfl⟩
    exact fun j hj => h ⟨j, hj⟩
  have hL1 : ∀ Q : Option Value → wp_S → Prop, Q (some (.int (nI 1))) S → cl h_Js_isLatin1 y_Js_isLatin1 [.ref 10005] S Q := by
    intro Q K
    refine cl_in ml_Js_isLatin1 rfl rfl ?_
    refine wp_getstatic (v := (.int (nI 1), _, _)) d_Js_isLatin1_0 ow_Js_isLatin1 gs_10_38 ?_
    refine wp_ifN_eq (pc' := 17) d_Js_isLatin1_3 (by decide) (by omega) (fun q => absurd q (by decide)) (fun _ => ?_)
    refine wp_aload_n d_Js_isLatin1_6 rfl rfl ?_
    refine wp_getfield (v := .int (nI 0)) d_Js_isLatin1_7 ow_Js_isLatin1 fl_10_15 rfl ?_
    refine wp_ifN_ne (pc' := 17) d_Js_isLatin1_10 (by decide) (by omega) (fun q => absurd q (by decide)) (fun _ => ?_)
    refine wp_iconst (x := nI 1) d_Js_isLatin1_13 rfl ?_
    refine wp_goto (pc' := 18) d_Js_isLatin1_14 (by decide) ?_
    refine wp_retz d_Js_isLatin1_18 rt_Js_isLatin1 (by first | exact Or.inl rfl | exact Or.inr rfl) ?_
    exact K
  have hCo : ∀ Q : Option Value → wp_S → Prop, Q (some (.int (nI 0))) S → cl h_Js_coder y_Js_coder [.ref 10005] S Q := by
    intro Q K
    refine cl_in ml_Js_coder rfl rfl ?_
    refine wp_getstatic (v := (.int (nI 1), _, _)) d_Js_coder_0 ow_Js_coder gs_10_38 ?_
    refine wp_ifN_eq (pc' := 13) d_Js_coder_3 (by decide) (by omega) (fun q => absurd q (by decide)) (fun _ => ?_)
    refine wp_aload_n d_Js_coder_6 rfl rfl ?_
    refine wp_getfield (v := .int (nI 0)) d_Js_coder_7 ow_Js_coder fl_10_15 rfl ?_
    refine wp_goto (pc' := 14) d_Js_coder_10 (by decide) ?_
    refine wp_ireturn d_Js_coder_14 rt_Js_coder ⟨Or.inr (Or.inr rfl), rfl⟩ ?_
    exact K
  have hLe : ∀ Q : Option Value → wp_S → Prop, Q (some (.int (nI 1))) S → cl h_Js_length y_Js_length [.ref 10005] S Q := by
    intro Q K
    refine cl_in ml_Js_length rfl rfl ?_
    refine wp_aload_n d_Js_length_0 rfl rfl ?_
    refine wp_getfield (v := .ref 11005) d_Js_length_1 ow_Js_length fl_10_9 rfl ?_
    refine wp_arraylength (n := 1) d_Js_length_4 rfl ?_
    refine wp_aload_n d_Js_length_5 rfl rfl ?_
    refine wp_invV d_Js_length_6 ow_Js_length lk_10_335 (by decide) mi_Js_coder rfl rfl (Nat.le_of_ble_eq_true rfl) rfl rfl (show h_Js_coder ≤ _ from by decide) (hCo _ ?_)
    refine wp_Ki ?_
    refine wp_ishr d_Js_length_9 ((by decide : nI 1 >>> (nI 0 &&& 31) = nI 1)) ?_
    refine wp_reti d_Js_length_10 rt_Js_length ?_
    exact K
  have hCa : ∀ Q : Option Value → wp_S → Prop, Q (some (.int (nI 1))) S → cl h_Jl_canEncode y_Jl_canEncode [.int (nI b)] S Q := by
    intro Q K
    refine cl_in ml_Jl_canEncode rfl rfl ?_
    refine wp_iload_n d_Jl_canEncode_0 rfl rfl ?_
    refine wp_ifN_lt (pc' := 15) d_Jl_canEncode_1 (by decide) (by omega) ?_
    refine wp_iload_n d_Jl_canEncode_4 rfl rfl ?_
    refine wp_sipush (x := nI 255) d_Jl_canEncode_5 (by decide) ?_
    refine wp_icN_gt (pc' := 15) d_Jl_canEncode_8 (by decide) (by omega) (by omega) (fun h8 => absurd h8 (by omega)) (fun h8 => ?_)
    refine wp_iconst (x := nI 1) d_Jl_canEncode_11 rfl ?_
    refine wp_goto (pc' := 16) d_Jl_canEncode_12 (by decide) ?_
    refine wp_retz d_Jl_canEncode_16 rt_Jl_canEncode (by first | exact Or.inl rfl | exact Or.inr rfl) ?_
    exact K
  have hIx : ∀ Q : Option Value → wp_S → Prop, Q (some (.int (sp_xo (nI b) [41] 1 0))) S → cl h_Jl_indexOf y_Jl_indexOf [.ref 11005, .int (nI b), .int (nI 0), .int (nI 1)] S Q := by
    intro Q K
    refine cl_in ml_Jl_indexOf rfl rfl ?_
    refine wp_iload_n d_Jl_indexOf_0 rfl rfl ?_
    refine wp_invS d_Jl_indexOf_1 ow_Jl_indexOf lk_11_88 (by decide) mi_Jl_canEncode rfl rfl (Nat.le_of_ble_eq_true rfl) rfl (show h_Jl_canEncode ≤ _ from by decide) (hCa _ ?_)
    refine wp_Ki ?_
    refine wp_ifN_ne (pc' := 9) d_Jl_indexOf_4 (by decide) (by omega) (fun _ => ?_) (fun q => absurd q (by decide))
    refine wp_iload_n d_Jl_indexOf_9 rfl rfl ?_
    refine wp_iconst (x := nI 0) d_Jl_indexOf_10 rfl ?_
    refine wp_mmax d_Jl_indexOf_11 ow_Jl_indexOf lk_11_92 rfl ((by decide : (if nI 0 < nI 0 then nI 0 else nI 0) = nI 0)) ?_
    refine wp_iston2 d_Jl_indexOf_14 rfl ?_
    refine wp_iload_n d_Jl_indexOf_15 rfl rfl ?_
    refine wp_aload_n d_Jl_indexOf_16 rfl rfl ?_
    refine wp_arraylength (n := 1) d_Jl_indexOf_17 rfl ?_
    refine wp_mmin d_Jl_indexOf_18 ow_Jl_indexOf lk_11_38 rfl ((by decide : (if nI 1 < nI 1 then nI 1 else nI 1) = nI 1)) ?_
    refine wp_iston3 d_Jl_indexOf_21 rfl ?_
    refine wp_iload_n d_Jl_indexOf_22 rfl rfl ?_
    refine wp_iload_n d_Jl_indexOf_23 rfl rfl ?_
    refine wp_icN_lt (pc' := 29) d_Jl_indexOf_24 (by decide) (by omega) (by omega) (fun _ => ?_) (fun q => absurd q (by decide))
    refine wp_aload_n d_Jl_indexOf_29 rfl rfl ?_
    refine wp_iload_n d_Jl_indexOf_30 rfl rfl ?_
    refine wp_iload_n d_Jl_indexOf_31 rfl rfl ?_
    refine wp_iload_n d_Jl_indexOf_32 rfl rfl ?_
    refine wp_invS d_Jl_indexOf_33 ow_Jl_indexOf lk_11_95 (by decide) mi_Jl_indexOfChar rfl rfl (Nat.le_of_ble_eq_true rfl) rfl (show h_Jl_indexOfChar ≤ _ from by decide) (c_ixc (T := [41]) rfl (by decide) hT hb ?_)
    refine wp_Ki ?_
    refine wp_reti d_Jl_indexOf_36 rt_Jl_indexOf ?_
    exact K
  have hI2 : ∀ Q : Option Value → wp_S → Prop, Q (some (.int (sp_xo (nI b) [41] 1 0))) S → cl h_Js_indexOf2 y_Js_indexOf2 [.ref 10005, .int (nI b), .int (nI 0)] S Q := by
    intro Q K
    refine cl_in ml_Js_indexOf2 rfl rfl ?_
    refine wp_aload_n d_Js_indexOf2_0 rfl rfl ?_
    refine wp_invV d_Js_indexOf2_1 ow_Js_indexOf2 lk_10_492 (by decide) mi_Js_isLatin1 rfl rfl (Nat.le_of_ble_eq_true rfl) rfl rfl (show h_Js_isLatin1 ≤ _ from by decide) (hL1 _ ?_)
    refine wp_Ki ?_
    refine wp_ifN_eq (pc' := 23) d_Js_indexOf2_4 (by decide) (by omega) (fun q => absurd q (by decide)) (fun _ => ?_)
    refine wp_aload_n d_Js_indexOf2_7 rfl rfl ?_
    refine wp_getfield (v := .ref 11005) d_Js_indexOf2_8 ow_Js_indexOf2 fl_10_9 rfl ?_
    refine wp_iload_n d_Js_indexOf2_11 rfl rfl ?_
    refine wp_iload_n d_Js_indexOf2_12 rfl rfl ?_
    refine wp_aload_n d_Js_indexOf2_13 rfl rfl ?_
    refine wp_invV d_Js_indexOf2_14 ow_Js_indexOf2 lk_10_505 (by decide) mi_Js_length rfl rfl (Nat.le_of_ble_eq_true rfl) rfl rfl (show h_Js_length ≤ _ from by decide) (hLe _ ?_)
    refine wp_Ki ?_
    refine wp_invS d_Js_indexOf2_17 ow_Js_indexOf2 lk_10_637 (by decide) mi_Jl_indexOf rfl rfl (Nat.le_of_ble_eq_true rfl) rfl (show h_Jl_indexOf ≤ _ from by decide) (hIx _ ?_)
    refine wp_Ki ?_
    refine wp_goto (pc' := 36) d_Js_indexOf2_20 (by decide) ?_
    refine wp_reti d_Js_indexOf2_36 rt_Js_indexOf2 ?_
    exact K
  refine cl_in ml_Js_indexOf rfl rfl ?_
  refine wp_aload_n d_Js_indexOf_0 rfl rfl ?_
  refine wp_iload_n d_Js_indexOf_1 rfl rfl ?_
  refine wp_iconst (x := nI 0) d_Js_indexOf_2 rfl ?_
  refine wp_invV d_Js_indexOf_3 ow_Js_indexOf lk_10_633 (by decide) mi_Js_indexOf2 rfl rfl (Nat.le_of_ble_eq_true rfl) rfl rfl (show h_Js_indexOf2 ≤ _ from by decide) (hI2 _ ?_)
  refine wp_Ki ?_
  refine wp_reti d_Js_indexOf_6 rt_Js_indexOf ?_
  exact K
theorem c_ix6 {b : Nat} (hb : b < 256) (K : Q (some (.int (sp_xo (nI b) [124] 1 0))) S) : cl h_Js_indexOf y_Js_indexOf [.ref 10006, .int (nI b)] S Q := by
  have hT : sp_as [124] := by
    have h : ∀ j : Fin 1, ∃ c, c < 128 ∧ ([124] : List Int32).getD j.val 0 = nI c := by
      intro j
      match j with
      | ⟨0, _⟩ => exact ⟨124, by decide, rfl⟩
    exact fun j hj => h ⟨j, hj⟩
  have hL1 : ∀ Q : Option Value → wp_S → Prop, Q (some (.int (nI 1))) S → cl h_Js_isLatin1 y_Js_isLatin1 [.ref 10006] S Q := by
    intro Q K
    refine cl_in ml_Js_isLatin1 rfl rfl ?_
    refine wp_getstatic (v := (.int (nI 1), _, _)) d_Js_isLatin1_0 ow_Js_isLatin1 gs_10_38 ?_
    refine wp_ifN_eq (pc' := 17) d_Js_isLatin1_3 (by decide) (by omega) (fun q => absurd q (by decide)) (fun _ => ?_)
    refine wp_aload_n d_Js_isLatin1_6 rfl rfl ?_
    refine wp_getfield (v := .int (nI 0)) d_Js_isLatin1_7 ow_Js_isLatin1 fl_10_15 rfl ?_
    refine wp_ifN_ne (pc' := 17) d_Js_isLatin1_10 (by decide) (by omega) (fun q => absurd q (by decide)) (fun _ => ?_)
    refine wp_iconst (x := nI 1) d_Js_isLatin1_13 rfl ?_
    refine wp_goto (pc' := 18) d_Js_isLatin1_14 (by decide) ?_
    refine wp_retz d_Js_isLatin1_18 rt_Js_isLatin1 (by first | exact Or.inl rfl | exact Or.inr rfl) ?_
    exact K
  have hCo : ∀ Q : Option Value → wp_S → Prop, Q (some (.int (nI 0))) S → cl h_Js_coder y_Js_coder [.ref 10006] S Q := by
    intro Q K
    refine cl_in ml_Js_coder rfl rfl ?_
    refine wp_getstatic (v := (.int (nI 1), _, _)) d_Js_coder_0 ow_Js_coder gs_10_38 ?_
    refine wp_ifN_eq (pc' := 13) d_Js_coder_3 (by decide) (by omega) (fun q => absurd q (by decide)) (fun _ => ?_)
    refine wp_aload_n d_Js_coder_6 rfl rfl ?_
    refine wp_getfield (v := .int (nI 0)) d_Js_coder_7 ow_Js_coder fl_10_15 rfl ?_
    refine wp_goto (pc' := 14) d_Js_coder_10 (by decide) ?_
    refine wp_ireturn d_Js_coder_14 rt_Js_coder ⟨Or.inr (Or.inr rfl), rfl⟩ ?_
    exact K
  have hLe : ∀ Q : Option Value → wp_S → Prop, Q (some (.int (nI 1))) S → cl h_Js_length y_Js_length [.ref 10006] S Q := by
    intro Q K
    refine cl_in ml_Js_length rfl rfl ?_
    refine wp_aload_n d_Js_length_0 rfl rfl ?_
    refine wp_getfield (v := .ref 11006) d_Js_length_1 ow_Js_length fl_10_9 rfl ?_
    refine wp_arraylength (n := 1) d_Js_length_4 rfl ?_
    refine wp_aload_n d_Js_length_5 rfl rfl ?_
    refine wp_invV d_Js_length_6 ow_Js_length lk_10_335 (by decide) mi_Js_coder rfl rfl (Nat.le_of_ble_eq_true rfl) rfl rfl (show h_Js_coder ≤ _ from by decide) (hCo _ ?_)
    refine wp_Ki ?_
    refine wp_ishr d_Js_length_9 ((by decide : nI 1 >>> (nI 0 &&& 31) = nI 1)) ?_
    refine wp_reti d_Js_length_10 rt_Js_length ?_
    exact K
  have hCa : ∀ Q : Option Value → wp_S → Prop, Q (some (.int (nI 1))) S → cl h_Jl_canEncode y_Jl_canEncode [.int (nI b)] S Q := by
    intro Q K
    refine cl_in ml_Jl_canEncode rfl rfl ?_
    refine wp_iload_n d_Jl_canEncode_0 rfl rfl ?_
    refine wp_ifN_lt (pc' := 15) d_Jl_canEncode_1 (by decide) (by omega) ?_
    refine wp_iload_n d_Jl_canEncode_4 rfl rfl ?_
    refine wp_sipush (x := nI 255) d_Jl_canEncode_5 (by decide) ?_
    refine wp_icN_gt (pc' := 15) d_Jl_canEncode_8 (by decide) (by omega) (by omega) (fun h8 => absurd h8 (by omega)) (fun h8 => ?_)
    refine wp_iconst (x := nI 1) d_Jl_canEncode_11 rfl ?_
    refine wp_goto (pc' := 16) d_Jl_canEncode_12 (by decide) ?_
    refine wp_retz d_Jl_canEncode_16 rt_Jl_canEncode (by first | exact Or.inl rfl | exact Or.inr rfl) ?_
    exact K
  have hIx : ∀ Q : Option Value → wp_S → Prop, Q (some (.int (sp_xo (nI b) [124] 1 0))) S → cl h_Jl_indexOf y_Jl_indexOf [.ref 11006, .int (nI b), .int (nI 0), .int (nI 1)] S Q := by
    intro Q K
    refine cl_in ml_Jl_indexOf rfl rfl ?_
    refine wp_iload_n d_Jl_indexOf_0 rfl rfl ?_
    refine wp_invS d_Jl_indexOf_1 ow_Jl_indexOf lk_11_88 (by decide) mi_Jl_canEncode rfl rfl (Nat.le_of_ble_eq_true rfl) rfl (show h_Jl_canEncode ≤ _ from by decide) (hCa _ ?_)
    refine wp_Ki ?_
    refine wp_ifN_ne (pc' := 9) d_Jl_indexOf_4 (by decide) (by omega) (fun _ => ?_) (fun q => absurd q (by decide))
    refine wp_iload_n d_Jl_indexOf_9 rfl rfl ?_
    refine wp_iconst (x := nI 0) d_Jl_indexOf_10 rfl ?_
    refine wp_mmax d_Jl_indexOf_11 ow_Jl_indexOf lk_11_92 rfl ((by decide : (if nI 0 < nI 0 then nI 0 else nI 0) = nI 0)) ?_
    refine wp_iston2 d_Jl_indexOf_14 rfl ?_
    refine wp_iload_n d_Jl_indexOf_15 rfl rfl ?_
    refine wp_aload_n d_Jl_indexOf_16 rfl rfl ?_
    refine wp_arraylength (n := 1) d_Jl_indexOf_17 rfl ?_
    refine wp_mmin d_Jl_indexOf_18 ow_Jl_indexOf lk_11_38 rfl ((by decide : (if nI 1 < nI 1 then nI 1 else nI 1) = nI 1)) ?_
    refine wp_iston3 d_Jl_indexOf_21 rfl ?_
    refine wp_iload_n d_Jl_indexOf_22 rfl rfl ?_
    refine wp_iload_n d_Jl_indexOf_23 rfl rfl ?_
    refine wp_icN_lt (pc' := 29) d_Jl_indexOf_24 (by decide) (by omega) (by omega) (fun _ => ?_) (fun q => absurd q (by decide))
    refine wp_aload_n d_Jl_indexOf_29 rfl rfl ?_
    refine wp_iload_n d_Jl_indexOf_30 rfl rfl ?_
    refine wp_iload_n d_Jl_indexOf_31 rfl rfl ?_
    refine wp_iload_n d_Jl_indexOf_32 rfl rfl ?_
    refine wp_invS d_Jl_indexOf_33 ow_Jl_indexOf lk_11_95 (by decide) mi_Jl_indexOfChar rfl rfl (Nat.le_of_ble_eq_true rfl) rfl (show h_Jl_indexOfChar ≤ _ from by decide) (c_ixc (T := [124]) rfl (by decide) hT hb ?_)
    refine wp_Ki ?_
    refine wp_reti d_Jl_indexOf_36 rt_Jl_indexOf ?_
    exact K
  have hI2 : ∀ Q : Option Value → wp_S → Prop, Q (some (.int (sp_xo (nI b) [124] 1 0))) S → cl h_Js_indexOf2 y_Js_indexOf2 [.ref 10006, .int (nI b), .int (nI 0)] S Q := by
    intro Q K
    refine cl_in ml_Js_indexOf2 rfl rfl ?_
    refine wp_aload_n d_Js_indexOf2_0 rfl rfl ?_
    refine wp_invV d_Js_indexOf2_1 ow_Js_indexOf2 lk_10_492 (by decide) mi_Js_isLatin1 rfl rfl (Nat.le_of_ble_eq_true rfl) rfl rfl (show h_Js_isLatin1 ≤ _ from by decide) (hL1 _ ?_)
    refine wp_Ki ?_
    refine wp_ifN_eq (pc' := 23) d_Js_indexOf2_4 (by decide) (by omega) (fun q => absurd q (by decide)) (fun _ => ?_)
    refine wp_aload_n d_Js_indexOf2_7 rfl rfl ?_
    refine wp_getfield (v := .ref 11006) d_Js_indexOf2_8 ow_Js_indexOf2 fl_10_9 rfl ?_
    refine wp_iload_n d_Js_indexOf2_11 rfl rfl ?_
    refine wp_iload_n d_Js_indexOf2_12 rfl rfl ?_
    refine wp_aload_n d_Js_indexOf2_13 rfl rfl ?_
    refine wp_invV d_Js_indexOf2_14 ow_Js_indexOf2 lk_10_505 (by decide) mi_Js_length rfl rfl (Nat.le_of_ble_eq_true rfl) rfl rfl (show h_Js_length ≤ _ from by decide) (hLe _ ?_)
    refine wp_Ki ?_
    refine wp_invS d_Js_indexOf2_17 ow_Js_indexOf2 lk_10_637 (by decide) mi_Jl_indexOf rfl rfl (Nat.le_of_ble_eq_true rfl) rfl (show h_Jl_indexOf ≤ _ from by decide) (hIx _ ?_)
    refine wp_Ki ?_
    refine wp_goto (pc' := 36) d_Js_indexOf2_20 (by decide) ?_
    refine wp_reti d_Js_indexOf2_36 rt_Js_indexOf2 ?_
    exact K
  refine cl_in ml_Js_indexOf rfl rfl ?_
  refine wp_aload_n d_Js_indexOf_0 rfl rfl ?_
  refine wp_iload_n d_Js_indexOf_1 rfl rfl ?_
  refine wp_iconst (x := nI 0) d_Js_indexOf_2 rfl ?_
  refine wp_invV d_Js_indexOf_3 ow_Js_indexOf lk_10_633 (by decide) mi_Js_indexOf2 rfl rfl (Nat.le_of_ble_eq_true rfl) rfl rfl (show h_Js_indexOf2 ≤ _ from by decide) (hI2 _ ?_)
  refine wp_Ki ?_
  refine wp_reti d_Js_indexOf_6 rt_Js_indexOf ?_
  exact K
theorem c_ix7 {b : Nat} (hb : b < 256) (K : Q (some (.int (sp_xo (nI b) [38] 1 0))) S) : cl h_Js_indexOf y_Js_indexOf [.ref 10007, .int (nI b)] S Q := by
  have hT : sp_as [38] := by
    have h : ∀ j : Fin 1, ∃ c, c < 128 ∧ ([38] : List Int32).getD j.val 0 = nI c := by
      intro j
      match j with
      | ⟨0, _⟩ => exact ⟨38, by decide, rfl⟩
    exact fun j hj => h ⟨j, hj⟩
  have hL1 : ∀ Q : Option Value → wp_S → Prop, Q (some (.int (nI 1))) S → cl h_Js_isLatin1 y_Js_isLatin1 [.ref 10007] S Q := by
    intro Q K
    refine cl_in ml_Js_isLatin1 rfl rfl ?_
    refine wp_getstatic (v := (.int (nI 1), _, _)) d_Js_isLatin1_0 ow_Js_isLatin1 gs_10_38 ?_
    refine wp_ifN_eq (pc' := 17) d_Js_isLatin1_3 (by decide) (by omega) (fun q => absurd q (by decide)) (fun _ => ?_)
    refine wp_aload_n d_Js_isLatin1_6 rfl rfl ?_
    refine wp_getfield (v := .int (nI 0)) d_Js_isLatin1_7 ow_Js_isLatin1 fl_10_15 rfl ?_
    refine wp_ifN_ne (pc' := 17) d_Js_isLatin1_10 (by decide) (by omega) (fun q => absurd q (by decide)) (fun _ => ?_)
    refine wp_iconst (x := nI 1) d_Js_isLatin1_13 rfl ?_
    refine wp_goto (pc' := 18) d_Js_isLatin1_14 (by decide) ?_
    refine wp_retz d_Js_isLatin1_18 rt_Js_isLatin1 (by first | exact Or.inl rfl | exact Or.inr rfl) ?_
    exact K
  have hCo : ∀ Q : Option Value → wp_S → Prop, Q (some (.int (nI 0))) S → cl h_Js_coder y_Js_coder [.ref 10007] S Q := by
    intro Q K
    refine cl_in ml_Js_coder rfl rfl ?_
    refine wp_getstatic (v := (.int (nI 1), _, _)) d_Js_coder_0 ow_Js_coder gs_10_38 ?_
    refine wp_ifN_eq (pc' := 13) d_Js_coder_3 (by decide) (by omega) (fun q => absurd q (by decide)) (fun _ => ?_)
    refine wp_aload_n d_Js_coder_6 rfl rfl ?_
    refine wp_getfield (v := .int (nI 0)) d_Js_coder_7 ow_Js_coder fl_10_15 rfl ?_
    refine wp_goto (pc' := 14) d_Js_coder_10 (by decide) ?_
    refine wp_ireturn d_Js_coder_14 rt_Js_coder ⟨Or.inr (Or.inr rfl), rfl⟩ ?_
    exact K
  have hLe : ∀ Q : Option Value → wp_S → Prop, Q (some (.int (nI 1))) S → cl h_Js_length y_Js_length [.ref 10007] S Q := by
    intro Q K
    refine cl_in ml_Js_length rfl rfl ?_
    refine wp_aload_n d_Js_length_0 rfl rfl ?_
    refine wp_getfield (v := .ref 11007) d_Js_length_1 ow_Js_length fl_10_9 rfl ?_
    refine wp_arraylength (n := 1) d_Js_length_4 rfl ?_
    refine wp_aload_n d_Js_length_5 rfl rfl ?_
    refine wp_invV d_Js_length_6 ow_Js_length lk_10_335 (by decide) mi_Js_coder rfl rfl (Nat.le_of_ble_eq_true rfl) rfl rfl (show h_Js_coder ≤ _ from by decide) (hCo _ ?_)
    refine wp_Ki ?_
    refine wp_ishr d_Js_length_9 ((by decide : nI 1 >>> (nI 0 &&& 31) = nI 1)) ?_
    refine wp_reti d_Js_length_10 rt_Js_length ?_
    exact K
  have hCa : ∀ Q : Option Value → wp_S → Prop, Q (some (.int (nI 1))) S → cl h_Jl_canEncode y_Jl_canEncode [.int (nI b)] S Q := by
    intro Q K
    refine cl_in ml_Jl_canEncode rfl rfl ?_
    refine wp_iload_n d_Jl_canEncode_0 rfl rfl ?_
    refine wp_ifN_lt (pc' := 15) d_Jl_canEncode_1 (by decide) (by omega) ?_
    refine wp_iload_n d_Jl_canEncode_4 rfl rfl ?_
    refine wp_sipush (x := nI 255) d_Jl_canEncode_5 (by decide) ?_
    refine wp_icN_gt (pc' := 15) d_Jl_canEncode_8 (by decide) (by omega) (by omega) (fun h8 => absurd h8 (by omega)) (fun h8 => ?_)
    refine wp_iconst (x := nI 1) d_Jl_canEncode_11 rfl ?_
    refine wp_goto (pc' := 16) d_Jl_canEncode_12 (by decide) ?_
    refine wp_retz d_Jl_canEncode_16 rt_Jl_canEncode (by first | exact Or.inl rfl | exact Or.inr rfl) ?_
    exact K
  have hIx : ∀ Q : Option Value → wp_S → Prop, Q (some (.int (sp_xo (nI b) [38] 1 0))) S → cl h_Jl_indexOf y_Jl_indexOf [.ref 11007, .int (nI b), .int (nI 0), .int (nI 1)] S Q := by
    intro Q K
    refine cl_in ml_Jl_indexOf rfl rfl ?_
    refine wp_iload_n d_Jl_indexOf_0 rfl rfl ?_
    refine wp_invS d_Jl_indexOf_1 ow_Jl_indexOf lk_11_88 (by decide) mi_Jl_canEncode rfl rfl (Nat.le_of_ble_eq_true rfl) rfl (show h_Jl_canEncode ≤ _ from by decide) (hCa _ ?_)
    refine wp_Ki ?_
    refine wp_ifN_ne (pc' := 9) d_Jl_indexOf_4 (by decide) (by omega) (fun _ => ?_) (fun q => absurd q (by decide))
    refine wp_iload_n d_Jl_indexOf_9 rfl rfl ?_
    refine wp_iconst (x := nI 0) d_Jl_indexOf_10 rfl ?_
    refine wp_mmax d_Jl_indexOf_11 ow_Jl_indexOf lk_11_92 rfl ((by decide : (if nI 0 < nI 0 then nI 0 else nI 0) = nI 0)) ?_
    refine wp_iston2 d_Jl_indexOf_14 rfl ?_
    refine wp_iload_n d_Jl_indexOf_15 rfl rfl ?_
    refine wp_aload_n d_Jl_indexOf_16 rfl rfl ?_
    refine wp_arraylength (n := 1) d_Jl_indexOf_17 rfl ?_
    refine wp_mmin d_Jl_indexOf_18 ow_Jl_indexOf lk_11_38 rfl ((by decide : (if nI 1 < nI 1 then nI 1 else nI 1) = nI 1)) ?_
    refine wp_iston3 d_Jl_indexOf_21 rfl ?_
    refine wp_iload_n d_Jl_indexOf_22 rfl rfl ?_
    refine wp_iload_n d_Jl_indexOf_23 rfl rfl ?_
    refine wp_icN_lt (pc' := 29) d_Jl_indexOf_24 (by decide) (by omega) (by omega) (fun _ => ?_) (fun q => absurd q (by decide))
    refine wp_aload_n d_Jl_indexOf_29 rfl rfl ?_
    refine wp_iload_n d_Jl_indexOf_30 rfl rfl ?_
    refine wp_iload_n d_Jl_indexOf_31 rfl rfl ?_
    refine wp_iload_n d_Jl_indexOf_32 rfl rfl ?_
    refine wp_invS d_Jl_indexOf_33 ow_Jl_indexOf lk_11_95 (by decide) mi_Jl_indexOfChar rfl rfl (Nat.le_of_ble_eq_true rfl) rfl (show h_Jl_indexOfChar ≤ _ from by decide) (c_ixc (T := [38]) rfl (by decide) hT hb ?_)
    refine wp_Ki ?_
    refine wp_reti d_Jl_indexOf_36 rt_Jl_indexOf ?_
    exact K
  have hI2 : ∀ Q : Option Value → wp_S → Prop, Q (some (.int (sp_xo (nI b) [38] 1 0))) S → cl h_Js_indexOf2 y_Js_indexOf2 [.ref 10007, .int (nI b), .int (nI 0)] S Q := by
    intro Q K
    refine cl_in ml_Js_indexOf2 rfl rfl ?_
    refine wp_aload_n d_Js_indexOf2_0 rfl rfl ?_
    refine wp_invV d_Js_indexOf2_1 ow_Js_indexOf2 lk_10_492 (by decide) mi_Js_isLatin1 rfl rfl (Nat.le_of_ble_eq_true rfl) rfl rfl (show h_Js_isLatin1 ≤ _ from by decide) (hL1 _ ?_)
    refine wp_Ki ?_
    refine wp_ifN_eq (pc' := 23) d_Js_indexOf2_4 (by decide) (by omega) (fun q => absurd q (by decide)) (fun _ => ?_)
    refine wp_aload_n d_Js_indexOf2_7 rfl rfl ?_
    refine wp_getfield (v := .ref 11007) d_Js_indexOf2_8 ow_Js_indexOf2 fl_10_9 rfl ?_
    refine wp_iload_n d_Js_indexOf2_11 rfl rfl ?_
    refine wp_iload_n d_Js_indexOf2_12 rfl rfl ?_
    refine wp_aload_n d_Js_indexOf2_13 rfl rfl ?_
    refine wp_invV d_Js_indexOf2_14 ow_Js_indexOf2 lk_10_505 (by decide) mi_Js_length rfl rfl (Nat.le_of_ble_eq_true rfl) rfl rfl (show h_Js_length ≤ _ from by decide) (hLe _ ?_)
    refine wp_Ki ?_
    refine wp_invS d_Js_indexOf2_17 ow_Js_indexOf2 lk_10_637 (by decide) mi_Jl_indexOf rfl rfl (Nat.le_of_ble_eq_true rfl) rfl (show h_Jl_indexOf ≤ _ from by decide) (hIx _ ?_)
    refine wp_Ki ?_
    refine wp_goto (pc' := 36) d_Js_indexOf2_20 (by decide) ?_
    refine wp_reti d_Js_indexOf2_36 rt_Js_indexOf2 ?_
    exact K
  refine cl_in ml_Js_indexOf rfl rfl ?_
  refine wp_aload_n d_Js_indexOf_0 rfl rfl ?_
  refine wp_iload_n d_Js_indexOf_1 rfl rfl ?_
  refine wp_iconst (x := nI 0) d_Js_indexOf_2 rfl ?_
  refine wp_invV d_Js_indexOf_3 ow_Js_indexOf lk_10_633 (by decide) mi_Js_indexOf2 rfl rfl (Nat.le_of_ble_eq_true rfl) rfl rfl (show h_Js_indexOf2 ≤ _ from by decide) (hI2 _ ?_)
  refine wp_Ki ?_
  refine wp_reti d_Js_indexOf_6 rt_Js_indexOf ?_
  exact K
theorem c_ix8 {b : Nat} (hb : b < 256) (K : Q (some (.int (sp_xo (nI b) [60, 61, 62] 3 0))) S) : cl h_Js_indexOf y_Js_indexOf [.ref 10008, .int (nI b)] S Q := by
  have hT : sp_as [60, 61, 62] := by
    have h : ∀ j : Fin 3, ∃ c, c < 128 ∧ ([60, 61, 62] : List Int32).getD j.val 0 = nI c := by
      intro j
      match j with
      | ⟨0, _⟩ => exact ⟨60, by decide, rfl⟩
      | ⟨1, _⟩ => exact ⟨61, by decide, rfl⟩
      | ⟨2, _⟩ => exact ⟨62, by decide, rfl⟩
    exact fun j hj => h ⟨j, hj⟩
  have hL1 : ∀ Q : Option Value → wp_S → Prop, Q (some (.int (nI 1))) S → cl h_Js_isLatin1 y_Js_isLatin1 [.ref 10008] S Q := by
    intro Q K
    refine cl_in ml_Js_isLatin1 rfl rfl ?_
    refine wp_getstatic (v := (.int (nI 1), _, _)) d_Js_isLatin1_0 ow_Js_isLatin1 gs_10_38 ?_
    refine wp_ifN_eq (pc' := 17) d_Js_isLatin1_3 (by decide) (by omega) (fun q => absurd q (by decide)) (fun _ => ?_)
    refine wp_aload_n d_Js_isLatin1_6 rfl rfl ?_
    refine wp_getfield (v := .int (nI 0)) d_Js_isLatin1_7 ow_Js_isLatin1 fl_10_15 rfl ?_
    refine wp_ifN_ne (pc' := 17) d_Js_isLatin1_10 (by decide) (by omega) (fun q => absurd q (by decide)) (fun _ => ?_)
    refine wp_iconst (x := nI 1) d_Js_isLatin1_13 rfl ?_
    refine wp_goto (pc' := 18) d_Js_isLatin1_14 (by decide) ?_
    refine wp_retz d_Js_isLatin1_18 rt_Js_isLatin1 (by first | exact Or.inl rfl | exact Or.inr rfl) ?_
    exact K
  have hCo : ∀ Q : Option Value → wp_S → Prop, Q (some (.int (nI 0))) S → cl h_Js_coder y_Js_coder [.ref 10008] S Q := by
    intro Q K
    refine cl_in ml_Js_coder rfl rfl ?_
    refine wp_getstatic (v := (.int (nI 1), _, _)) d_Js_coder_0 ow_Js_coder gs_10_38 ?_
    refine wp_ifN_eq (pc' := 13) d_Js_coder_3 (by decide) (by omega) (fun q => absurd q (by decide)) (fun _ => ?_)
    refine wp_aload_n d_Js_coder_6 rfl rfl ?_
    refine wp_getfield (v := .int (nI 0)) d_Js_coder_7 ow_Js_coder fl_10_15 rfl ?_
    refine wp_goto (pc' := 14) d_Js_coder_10 (by decide) ?_
    refine wp_ireturn d_Js_coder_14 rt_Js_coder ⟨Or.inr (Or.inr rfl), rfl⟩ ?_
    exact K
  have hLe : ∀ Q : Option Value → wp_S → Prop, Q (some (.int (nI 3))) S → cl h_Js_length y_Js_length [.ref 10008] S Q := by
    intro Q K
    refine cl_in ml_Js_length rfl rfl ?_
    refine wp_aload_n d_Js_length_0 rfl rfl ?_
    refine wp_getfield (v := .ref 11008) d_Js_length_1 ow_Js_length fl_10_9 rfl ?_
    refine wp_arraylength (n := 3) d_Js_length_4 rfl ?_
    refine wp_aload_n d_Js_length_5 rfl rfl ?_
    refine wp_invV d_Js_length_6 ow_Js_length lk_10_335 (by decide) mi_Js_coder rfl rfl (Nat.le_of_ble_eq_true rfl) rfl rfl (show h_Js_coder ≤ _ from by decide) (hCo _ ?_)
    refine wp_Ki ?_
    refine wp_ishr d_Js_length_9 ((by decide : nI 3 >>> (nI 0 &&& 31) = nI 3)) ?_
    refine wp_reti d_Js_length_10 rt_Js_length ?_
    exact K
  have hCa : ∀ Q : Option Value → wp_S → Prop, Q (some (.int (nI 1))) S → cl h_Jl_canEncode y_Jl_canEncode [.int (nI b)] S Q := by
    intro Q K
    refine cl_in ml_Jl_canEncode rfl rfl ?_
    refine wp_iload_n d_Jl_canEncode_0 rfl rfl ?_
    refine wp_ifN_lt (pc' := 15) d_Jl_canEncode_1 (by decide) (by omega) ?_
    refine wp_iload_n d_Jl_canEncode_4 rfl rfl ?_
    refine wp_sipush (x := nI 255) d_Jl_canEncode_5 (by decide) ?_
    refine wp_icN_gt (pc' := 15) d_Jl_canEncode_8 (by decide) (by omega) (by omega) (fun h8 => absurd h8 (by omega)) (fun h8 => ?_)
    refine wp_iconst (x := nI 1) d_Jl_canEncode_11 rfl ?_
    refine wp_goto (pc' := 16) d_Jl_canEncode_12 (by decide) ?_
    refine wp_retz d_Jl_canEncode_16 rt_Jl_canEncode (by first | exact Or.inl rfl | exact Or.inr rfl) ?_
    exact K
  have hIx : ∀ Q : Option Value → wp_S → Prop, Q (some (.int (sp_xo (nI b) [60, 61, 62] 3 0))) S → cl h_Jl_indexOf y_Jl_indexOf [.ref 11008, .int (nI b), .int (nI 0), .int (nI 3)] S Q := by
    intro Q K
    refine cl_in ml_Jl_indexOf rfl rfl ?_
    refine wp_iload_n d_Jl_indexOf_0 rfl rfl ?_
    refine wp_invS d_Jl_indexOf_1 ow_Jl_indexOf lk_11_88 (by decide) mi_Jl_canEncode rfl rfl (Nat.le_of_ble_eq_true rfl) rfl (show h_Jl_canEncode ≤ _ from by decide) (hCa _ ?_)
    refine wp_Ki ?_
    refine wp_ifN_ne (pc' := 9) d_Jl_indexOf_4 (by decide) (by omega) (fun _ => ?_) (fun q => absurd q (by decide))
    refine wp_iload_n d_Jl_indexOf_9 rfl rfl ?_
    refine wp_iconst (x := nI 0) d_Jl_indexOf_10 rfl ?_
    refine wp_mmax d_Jl_indexOf_11 ow_Jl_indexOf lk_11_92 rfl ((by decide : (if nI 0 < nI 0 then nI 0 else nI 0) = nI 0)) ?_
    refine wp_iston2 d_Jl_indexOf_14 rfl ?_
    refine wp_iload_n d_Jl_indexOf_15 rfl rfl ?_
    refine wp_aload_n d_Jl_indexOf_16 rfl rfl ?_
    refine wp_arraylength (n := 3) d_Jl_indexOf_17 rfl ?_
    refine wp_mmin d_Jl_indexOf_18 ow_Jl_indexOf lk_11_38 rfl ((by decide : (if nI 3 < nI 3 then nI 3 else nI 3) = nI 3)) ?_
    refine wp_iston3 d_Jl_indexOf_21 rfl ?_
    refine wp_iload_n d_Jl_indexOf_22 rfl rfl ?_
    refine wp_iload_n d_Jl_indexOf_23 rfl rfl ?_
    refine wp_icN_lt (pc' := 29) d_Jl_indexOf_24 (by decide) (by omega) (by omega) (fun _ => ?_) (fun q => absurd q (by decide))
    refine wp_aload_n d_Jl_indexOf_29 rfl rfl ?_
    refine wp_iload_n d_Jl_indexOf_30 rfl rfl ?_
    refine wp_iload_n d_Jl_indexOf_31 rfl rfl ?_
    refine wp_iload_n d_Jl_indexOf_32 rfl rfl ?_
    refine wp_invS d_Jl_indexOf_33 ow_Jl_indexOf lk_11_95 (by decide) mi_Jl_indexOfChar rfl rfl (Nat.le_of_ble_eq_true rfl) rfl (show h_Jl_indexOfChar ≤ _ from by decide) (c_ixc (T := [60, 61, 62]) rfl (by decide) hT hb ?_)
    refine wp_Ki ?_
    refine wp_reti d_Jl_indexOf_36 rt_Jl_indexOf ?_
    exact K
  have hI2 : ∀ Q : Option Value → wp_S → Prop, Q (some (.int (sp_xo (nI b) [60, 61, 62] 3 0))) S → cl h_Js_indexOf2 y_Js_indexOf2 [.ref 10008, .int (nI b), .int (nI 0)] S Q := by
    intro Q K
    refine cl_in ml_Js_indexOf2 rfl rfl ?_
    refine wp_aload_n d_Js_indexOf2_0 rfl rfl ?_
    refine wp_invV d_Js_indexOf2_1 ow_Js_indexOf2 lk_10_492 (by decide) mi_Js_isLatin1 rfl rfl (Nat.le_of_ble_eq_true rfl) rfl rfl (show h_Js_isLatin1 ≤ _ from by decide) (hL1 _ ?_)
    refine wp_Ki ?_
    refine wp_ifN_eq (pc' := 23) d_Js_indexOf2_4 (by decide) (by omega) (fun q => absurd q (by decide)) (fun _ => ?_)
    refine wp_aload_n d_Js_indexOf2_7 rfl rfl ?_
    refine wp_getfield (v := .ref 11008) d_Js_indexOf2_8 ow_Js_indexOf2 fl_10_9 rfl ?_
    refine wp_iload_n d_Js_indexOf2_11 rfl rfl ?_
    refine wp_iload_n d_Js_indexOf2_12 rfl rfl ?_
    refine wp_aload_n d_Js_indexOf2_13 rfl rfl ?_
    refine wp_invV d_Js_indexOf2_14 ow_Js_indexOf2 lk_10_505 (by decide) mi_Js_length rfl rfl (Nat.le_of_ble_eq_true rfl) rfl rfl (show h_Js_length ≤ _ from by decide) (hLe _ ?_)
    refine wp_Ki ?_
    refine wp_invS d_Js_indexOf2_17 ow_Js_indexOf2 lk_10_637 (by decide) mi_Jl_indexOf rfl rfl (Nat.le_of_ble_eq_true rfl) rfl (show h_Jl_indexOf ≤ _ from by decide) (hIx _ ?_)
    refine wp_Ki ?_
    refine wp_goto (pc' := 36) d_Js_indexOf2_20 (by decide) ?_
    refine wp_reti d_Js_indexOf2_36 rt_Js_indexOf2 ?_
    exact K
  refine cl_in ml_Js_indexOf rfl rfl ?_
  refine wp_aload_n d_Js_indexOf_0 rfl rfl ?_
  refine wp_iload_n d_Js_indexOf_1 rfl rfl ?_
  refine wp_iconst (x := nI 0) d_Js_indexOf_2 rfl ?_
  refine wp_invV d_Js_indexOf_3 ow_Js_indexOf lk_10_633 (by decide) mi_Js_indexOf2 rfl rfl (Nat.le_of_ble_eq_true rfl) rfl rfl (show h_Js_indexOf2 ≤ _ from by decide) (hI2 _ ?_)
  refine wp_Ki ?_
  refine wp_reti d_Js_indexOf_6 rt_Js_indexOf ?_
  exact K
theorem c_ix9 {b : Nat} (hb : b < 256) (K : Q (some (.int (sp_xo (nI b) [43, 45] 2 0))) S) : cl h_Js_indexOf y_Js_indexOf [.ref 10009, .int (nI b)] S Q := by
  have hT : sp_as [43, 45] := by
    have h : ∀ j : Fin 2, ∃ c, c < 128 ∧ ([43, 45] : List Int32).getD j.val 0 = nI c := by
      intro j
      match j with
      | ⟨0, _⟩ => exact ⟨43, by decide, rfl⟩
      | ⟨1, _⟩ => exact ⟨45, by decide, rfl⟩
    exact fun j hj => h ⟨j, hj⟩
  have hL1 : ∀ Q : Option Value → wp_S → Prop, Q (some (.int (nI 1))) S → cl h_Js_isLatin1 y_Js_isLatin1 [.ref 10009] S Q := by
    intro Q K
    refine cl_in ml_Js_isLatin1 rfl rfl ?_
    refine wp_getstatic (v := (.int (nI 1), _, _)) d_Js_isLatin1_0 ow_Js_isLatin1 gs_10_38 ?_
    refine wp_ifN_eq (pc' := 17) d_Js_isLatin1_3 (by decide) (by omega) (fun q => absurd q (by decide)) (fun _ => ?_)
    refine wp_aload_n d_Js_isLatin1_6 rfl rfl ?_
    refine wp_getfield (v := .int (nI 0)) d_Js_isLatin1_7 ow_Js_isLatin1 fl_10_15 rfl ?_
    refine wp_ifN_ne (pc' := 17) d_Js_isLatin1_10 (by decide) (by omega) (fun q => absurd q (by decide)) (fun _ => ?_)
    refine wp_iconst (x := nI 1) d_Js_isLatin1_13 rfl ?_
    refine wp_goto (pc' := 18) d_Js_isLatin1_14 (by decide) ?_
    refine wp_retz d_Js_isLatin1_18 rt_Js_isLatin1 (by first | exact Or.inl rfl | exact Or.inr rfl) ?_
    exact K
  have hCo : ∀ Q : Option Value → wp_S → Prop, Q (some (.int (nI 0))) S → cl h_Js_coder y_Js_coder [.ref 10009] S Q := by
    intro Q K
    refine cl_in ml_Js_coder rfl rfl ?_
    refine wp_getstatic (v := (.int (nI 1), _, _)) d_Js_coder_0 ow_Js_coder gs_10_38 ?_
    refine wp_ifN_eq (pc' := 13) d_Js_coder_3 (by decide) (by omega) (fun q => absurd q (by decide)) (fun _ => ?_)
    refine wp_aload_n d_Js_coder_6 rfl rfl ?_
    refine wp_getfield (v := .int (nI 0)) d_Js_coder_7 ow_Js_coder fl_10_15 rfl ?_
    refine wp_goto (pc' := 14) d_Js_coder_10 (by decide) ?_
    refine wp_ireturn d_Js_coder_14 rt_Js_coder ⟨Or.inr (Or.inr rfl), rfl⟩ ?_
    exact K
  have hLe : ∀ Q : Option Value → wp_S → Prop, Q (some (.int (nI 2))) S → cl h_Js_length y_Js_length [.ref 10009] S Q := by
    intro Q K
    refine cl_in ml_Js_length rfl rfl ?_
    refine wp_aload_n d_Js_length_0 rfl rfl ?_
    refine wp_getfield (v := .ref 11009) d_Js_length_1 ow_Js_length fl_10_9 rfl ?_
    refine wp_arraylength (n := 2) d_Js_length_4 rfl ?_
    refine wp_aload_n d_Js_length_5 rfl rfl ?_
    refine wp_invV d_Js_length_6 ow_Js_length lk_10_335 (by decide) mi_Js_coder rfl rfl (Nat.le_of_ble_eq_true rfl) rfl rfl (show h_Js_coder ≤ _ from by decide) (hCo _ ?_)
    refine wp_Ki ?_
    refine wp_ishr d_Js_length_9 ((by decide : nI 2 >>> (nI 0 &&& 31) = nI 2)) ?_
    refine wp_reti d_Js_length_10 rt_Js_length ?_
    exact K
  have hCa : ∀ Q : Option Value → wp_S → Prop, Q (some (.int (nI 1))) S → cl h_Jl_canEncode y_Jl_canEncode [.int (nI b)] S Q := by
    intro Q K
    refine cl_in ml_Jl_canEncode rfl rfl ?_
    refine wp_iload_n d_Jl_canEncode_0 rfl rfl ?_
    refine wp_ifN_lt (pc' := 15) d_Jl_canEncode_1 (by decide) (by omega) ?_
    refine wp_iload_n d_Jl_canEncode_4 rfl rfl ?_
    refine wp_sipush (x := nI 255) d_Jl_canEncode_5 (by decide) ?_
    refine wp_icN_gt (pc' := 15) d_Jl_canEncode_8 (by decide) (by omega) (by omega) (fun h8 => absurd h8 (by omega)) (fun h8 => ?_)
    refine wp_iconst (x := nI 1) d_Jl_canEncode_11 rfl ?_
    refine wp_goto (pc' := 16) d_Jl_canEncode_12 (by decide) ?_
    refine wp_retz d_Jl_canEncode_16 rt_Jl_canEncode (by first | exact Or.inl rfl | exact Or.inr rfl) ?_
    exact K
  have hIx : ∀ Q : Option Value → wp_S → Prop, Q (some (.int (sp_xo (nI b) [43, 45] 2 0))) S → cl h_Jl_indexOf y_Jl_indexOf [.ref 11009, .int (nI b), .int (nI 0), .int (nI 2)] S Q := by
    intro Q K
    refine cl_in ml_Jl_indexOf rfl rfl ?_
    refine wp_iload_n d_Jl_indexOf_0 rfl rfl ?_
    refine wp_invS d_Jl_indexOf_1 ow_Jl_indexOf lk_11_88 (by decide) mi_Jl_canEncode rfl rfl (Nat.le_of_ble_eq_true rfl) rfl (show h_Jl_canEncode ≤ _ from by decide) (hCa _ ?_)
    refine wp_Ki ?_
    refine wp_ifN_ne (pc' := 9) d_Jl_indexOf_4 (by decide) (by omega) (fun _ => ?_) (fun q => absurd q (by decide))
    refine wp_iload_n d_Jl_indexOf_9 rfl rfl ?_
    refine wp_iconst (x := nI 0) d_Jl_indexOf_10 rfl ?_
    refine wp_mmax d_Jl_indexOf_11 ow_Jl_indexOf lk_11_92 rfl ((by decide : (if nI 0 < nI 0 then nI 0 else nI 0) = nI 0)) ?_
    refine wp_iston2 d_Jl_indexOf_14 rfl ?_
    refine wp_iload_n d_Jl_indexOf_15 rfl rfl ?_
    refine wp_aload_n d_Jl_indexOf_16 rfl rfl ?_
    refine wp_arraylength (n := 2) d_Jl_indexOf_17 rfl ?_
    refine wp_mmin d_Jl_indexOf_18 ow_Jl_indexOf lk_11_38 rfl ((by decide : (if nI 2 < nI 2 then nI 2 else nI 2) = nI 2)) ?_
    refine wp_iston3 d_Jl_indexOf_21 rfl ?_
    refine wp_iload_n d_Jl_indexOf_22 rfl rfl ?_
    refine wp_iload_n d_Jl_indexOf_23 rfl rfl ?_
    refine wp_icN_lt (pc' := 29) d_Jl_indexOf_24 (by decide) (by omega) (by omega) (fun _ => ?_) (fun q => absurd q (by decide))
    refine wp_aload_n d_Jl_indexOf_29 rfl rfl ?_
    refine wp_iload_n d_Jl_indexOf_30 rfl rfl ?_
    refine wp_iload_n d_Jl_indexOf_31 rfl rfl ?_
    refine wp_iload_n d_Jl_indexOf_32 rfl rfl ?_
    refine wp_invS d_Jl_indexOf_33 ow_Jl_indexOf lk_11_95 (by decide) mi_Jl_indexOfChar rfl rfl (Nat.le_of_ble_eq_true rfl) rfl (show h_Jl_indexOfChar ≤ _ from by decide) (c_ixc (T := [43, 45]) rfl (by decide) hT hb ?_)
    refine wp_Ki ?_
    refine wp_reti d_Jl_indexOf_36 rt_Jl_indexOf ?_
    exact K
  have hI2 : ∀ Q : Option Value → wp_S → Prop, Q (some (.int (sp_xo (nI b) [43, 45] 2 0))) S → cl h_Js_indexOf2 y_Js_indexOf2 [.ref 10009, .int (nI b), .int (nI 0)] S Q := by
    intro Q K
    refine cl_in ml_Js_indexOf2 rfl rfl ?_
    refine wp_aload_n d_Js_indexOf2_0 rfl rfl ?_
    refine wp_invV d_Js_indexOf2_1 ow_Js_indexOf2 lk_10_492 (by decide) mi_Js_isLatin1 rfl rfl (Nat.le_of_ble_eq_true rfl) rfl rfl (show h_Js_isLatin1 ≤ _ from by decide) (hL1 _ ?_)
    refine wp_Ki ?_
    refine wp_ifN_eq (pc' := 23) d_Js_indexOf2_4 (by decide) (by omega) (fun q => absurd q (by decide)) (fun _ => ?_)
    refine wp_aload_n d_Js_indexOf2_7 rfl rfl ?_
    refine wp_getfield (v := .ref 11009) d_Js_indexOf2_8 ow_Js_indexOf2 fl_10_9 rfl ?_
    refine wp_iload_n d_Js_indexOf2_11 rfl rfl ?_
    refine wp_iload_n d_Js_indexOf2_12 rfl rfl ?_
    refine wp_aload_n d_Js_indexOf2_13 rfl rfl ?_
    refine wp_invV d_Js_indexOf2_14 ow_Js_indexOf2 lk_10_505 (by decide) mi_Js_length rfl rfl (Nat.le_of_ble_eq_true rfl) rfl rfl (show h_Js_length ≤ _ from by decide) (hLe _ ?_)
    refine wp_Ki ?_
    refine wp_invS d_Js_indexOf2_17 ow_Js_indexOf2 lk_10_637 (by decide) mi_Jl_indexOf rfl rfl (Nat.le_of_ble_eq_true rfl) rfl (show h_Jl_indexOf ≤ _ from by decide) (hIx _ ?_)
    refine wp_Ki ?_
    refine wp_goto (pc' := 36) d_Js_indexOf2_20 (by decide) ?_
    refine wp_reti d_Js_indexOf2_36 rt_Js_indexOf2 ?_
    exact K
  refine cl_in ml_Js_indexOf rfl rfl ?_
  refine wp_aload_n d_Js_indexOf_0 rfl rfl ?_
  refine wp_iload_n d_Js_indexOf_1 rfl rfl ?_
  refine wp_iconst (x := nI 0) d_Js_indexOf_2 rfl ?_
  refine wp_invV d_Js_indexOf_3 ow_Js_indexOf lk_10_633 (by decide) mi_Js_indexOf2 rfl rfl (Nat.le_of_ble_eq_true rfl) rfl rfl (show h_Js_indexOf2 ≤ _ from by decide) (hI2 _ ?_)
  refine wp_Ki ?_
  refine wp_reti d_Js_indexOf_6 rt_Js_indexOf ?_
  exact K
theorem c_ix10 {b : Nat} (hb : b < 256) (K : Q (some (.int (sp_xo (nI b) [42, 47, 37] 3 0))) S) : cl h_Js_indexOf y_Js_indexOf [.ref 10010, .int (nI b)] S Q := by
  have hT : sp_as [42, 47, 37] := by
    have h : ∀ j : Fin 3, ∃ c, c < 128 ∧ ([42, 47, 37] : List Int32).getD j.val 0 = nI c := by
      intro j
      match j with
      | ⟨0, _⟩ => exact ⟨42, by decide, rfl⟩
      | ⟨1, _⟩ => exact ⟨47, by decide, rfl⟩
      | ⟨2, _⟩ => exact ⟨37, by decide, rfl⟩
    exact fun j hj => h ⟨j, hj⟩
  have hL1 : ∀ Q : Option Value → wp_S → Prop, Q (some (.int (nI 1))) S → cl h_Js_isLatin1 y_Js_isLatin1 [.ref 10010] S Q := by
    intro Q K
    refine cl_in ml_Js_isLatin1 rfl rfl ?_
    refine wp_getstatic (v := (.int (nI 1), _, _)) d_Js_isLatin1_0 ow_Js_isLatin1 gs_10_38 ?_
    refine wp_ifN_eq (pc' := 17) d_Js_isLatin1_3 (by decide) (by omega) (fun q => absurd q (by decide)) (fun _ => ?_)
    refine wp_aload_n d_Js_isLatin1_6 rfl rfl ?_
    refine wp_getfield (v := .int (nI 0)) d_Js_isLatin1_7 ow_Js_isLatin1 fl_10_15 rfl ?_
    refine wp_ifN_ne (pc' := 17) d_Js_isLatin1_10 (by decide) (by omega) (fun q => absurd q (by decide)) (fun _ => ?_)
    refine wp_iconst (x := nI 1) d_Js_isLatin1_13 rfl ?_
    refine wp_goto (pc' := 18) d_Js_isLatin1_14 (by decide) ?_
    refine wp_retz d_Js_isLatin1_18 rt_Js_isLatin1 (by first | exact Or.inl rfl | exact Or.inr rfl) ?_
    exact K
  have hCo : ∀ Q : Option Value → wp_S → Prop, Q (some (.int (nI 0))) S → cl h_Js_coder y_Js_coder [.ref 10010] S Q := by
    intro Q K
    refine cl_in ml_Js_coder rfl rfl ?_
    refine wp_getstatic (v := (.int (nI 1), _, _)) d_Js_coder_0 ow_Js_coder gs_10_38 ?_
    refine wp_ifN_eq (pc' := 13) d_Js_coder_3 (by decide) (by omega) (fun q => absurd q (by decide)) (fun _ => ?_)
    refine wp_aload_n d_Js_coder_6 rfl rfl ?_
    refine wp_getfield (v := .int (nI 0)) d_Js_coder_7 ow_Js_coder fl_10_15 rfl ?_
    refine wp_goto (pc' := 14) d_Js_coder_10 (by decide) ?_
    refine wp_ireturn d_Js_coder_14 rt_Js_coder ⟨Or.inr (Or.inr rfl), rfl⟩ ?_
    exact K
  have hLe : ∀ Q : Option Value → wp_S → Prop, Q (some (.int (nI 3))) S → cl h_Js_length y_Js_length [.ref 10010] S Q := by
    intro Q K
    refine cl_in ml_Js_length rfl rfl ?_
    refine wp_aload_n d_Js_length_0 rfl rfl ?_
    refine wp_getfield (v := .ref 11010) d_Js_length_1 ow_Js_length fl_10_9 rfl ?_
    refine wp_arraylength (n := 3) d_Js_length_4 rfl ?_
    refine wp_aload_n d_Js_length_5 rfl rfl ?_
    refine wp_invV d_Js_length_6 ow_Js_length lk_10_335 (by decide) mi_Js_coder rfl rfl (Nat.le_of_ble_eq_true rfl) rfl rfl (show h_Js_coder ≤ _ from by decide) (hCo _ ?_)
    refine wp_Ki ?_
    refine wp_ishr d_Js_length_9 ((by decide : nI 3 >>> (nI 0 &&& 31) = nI 3)) ?_
    refine wp_reti d_Js_length_10 rt_Js_length ?_
    exact K
  have hCa : ∀ Q : Option Value → wp_S → Prop, Q (some (.int (nI 1))) S → cl h_Jl_canEncode y_Jl_canEncode [.int (nI b)] S Q := by
    intro Q K
    refine cl_in ml_Jl_canEncode rfl rfl ?_
    refine wp_iload_n d_Jl_canEncode_0 rfl rfl ?_
    refine wp_ifN_lt (pc' := 15) d_Jl_canEncode_1 (by decide) (by omega) ?_
    refine wp_iload_n d_Jl_canEncode_4 rfl rfl ?_
    refine wp_sipush (x := nI 255) d_Jl_canEncode_5 (by decide) ?_
    refine wp_icN_gt (pc' := 15) d_Jl_canEncode_8 (by decide) (by omega) (by omega) (fun h8 => absurd h8 (by omega)) (fun h8 => ?_)
    refine wp_iconst (x := nI 1) d_Jl_canEncode_11 rfl ?_
    refine wp_goto (pc' := 16) d_Jl_canEncode_12 (by decide) ?_
    refine wp_retz d_Jl_canEncode_16 rt_Jl_canEncode (by first | exact Or.inl rfl | exact Or.inr rfl) ?_
    exact K
  have hIx : ∀ Q : Option Value → wp_S → Prop, Q (some (.int (sp_xo (nI b) [42, 47, 37] 3 0))) S → cl h_Jl_indexOf y_Jl_indexOf [.ref 11010, .int (nI b), .int (nI 0), .int (nI 3)] S Q := by
    intro Q K
    refine cl_in ml_Jl_indexOf rfl rfl ?_
    refine wp_iload_n d_Jl_indexOf_0 rfl rfl ?_
    refine wp_invS d_Jl_indexOf_1 ow_Jl_indexOf lk_11_88 (by decide) mi_Jl_canEncode rfl rfl (Nat.le_of_ble_eq_true rfl) rfl (show h_Jl_canEncode ≤ _ from by decide) (hCa _ ?_)
    refine wp_Ki ?_
    refine wp_ifN_ne (pc' := 9) d_Jl_indexOf_4 (by decide) (by omega) (fun _ => ?_) (fun q => absurd q (by decide))
    refine wp_iload_n d_Jl_indexOf_9 rfl rfl ?_
    refine wp_iconst (x := nI 0) d_Jl_indexOf_10 rfl ?_
    refine wp_mmax d_Jl_indexOf_11 ow_Jl_indexOf lk_11_92 rfl ((by decide : (if nI 0 < nI 0 then nI 0 else nI 0) = nI 0)) ?_
    refine wp_iston2 d_Jl_indexOf_14 rfl ?_
    refine wp_iload_n d_Jl_indexOf_15 rfl rfl ?_
    refine wp_aload_n d_Jl_indexOf_16 rfl rfl ?_
    refine wp_arraylength (n := 3) d_Jl_indexOf_17 rfl ?_
    refine wp_mmin d_Jl_indexOf_18 ow_Jl_indexOf lk_11_38 rfl ((by decide : (if nI 3 < nI 3 then nI 3 else nI 3) = nI 3)) ?_
    refine wp_iston3 d_Jl_indexOf_21 rfl ?_
    refine wp_iload_n d_Jl_indexOf_22 rfl rfl ?_
    refine wp_iload_n d_Jl_indexOf_23 rfl rfl ?_
    refine wp_icN_lt (pc' := 29) d_Jl_indexOf_24 (by decide) (by omega) (by omega) (fun _ => ?_) (fun q => absurd q (by decide))
    refine wp_aload_n d_Jl_indexOf_29 rfl rfl ?_
    refine wp_iload_n d_Jl_indexOf_30 rfl rfl ?_
    refine wp_iload_n d_Jl_indexOf_31 rfl rfl ?_
    refine wp_iload_n d_Jl_indexOf_32 rfl rfl ?_
    refine wp_invS d_Jl_indexOf_33 ow_Jl_indexOf lk_11_95 (by decide) mi_Jl_indexOfChar rfl rfl (Nat.le_of_ble_eq_true rfl) rfl (show h_Jl_indexOfChar ≤ _ from by decide) (c_ixc (T := [42, 47, 37]) rfl (by decide) hT hb ?_)
    refine wp_Ki ?_
    refine wp_reti d_Jl_indexOf_36 rt_Jl_indexOf ?_
    exact K
  have hI2 : ∀ Q : Option Value → wp_S → Prop, Q (some (.int (sp_xo (nI b) [42, 47, 37] 3 0))) S → cl h_Js_indexOf2 y_Js_indexOf2 [.ref 10010, .int (nI b), .int (nI 0)] S Q := by
    intro Q K
    refine cl_in ml_Js_indexOf2 rfl rfl ?_
    refine wp_aload_n d_Js_indexOf2_0 rfl rfl ?_
    refine wp_invV d_Js_indexOf2_1 ow_Js_indexOf2 lk_10_492 (by decide) mi_Js_isLatin1 rfl rfl (Nat.le_of_ble_eq_true rfl) rfl rfl (show h_Js_isLatin1 ≤ _ from by decide) (hL1 _ ?_)
    refine wp_Ki ?_
    refine wp_ifN_eq (pc' := 23) d_Js_indexOf2_4 (by decide) (by omega) (fun q => absurd q (by decide)) (fun _ => ?_)
    refine wp_aload_n d_Js_indexOf2_7 rfl rfl ?_
    refine wp_getfield (v := .ref 11010) d_Js_indexOf2_8 ow_Js_indexOf2 fl_10_9 rfl ?_
    refine wp_iload_n d_Js_indexOf2_11 rfl rfl ?_
    refine wp_iload_n d_Js_indexOf2_12 rfl rfl ?_
    refine wp_aload_n d_Js_indexOf2_13 rfl rfl ?_
    refine wp_invV d_Js_indexOf2_14 ow_Js_indexOf2 lk_10_505 (by decide) mi_Js_length rfl rfl (Nat.le_of_ble_eq_true rfl) rfl rfl (show h_Js_length ≤ _ from by decide) (hLe _ ?_)
    refine wp_Ki ?_
    refine wp_invS d_Js_indexOf2_17 ow_Js_indexOf2 lk_10_637 (by decide) mi_Jl_indexOf rfl rfl (Nat.le_of_ble_eq_true rfl) rfl (show h_Jl_indexOf ≤ _ from by decide) (hIx _ ?_)
    refine wp_Ki ?_
    refine wp_goto (pc' := 36) d_Js_indexOf2_20 (by decide) ?_
    refine wp_reti d_Js_indexOf2_36 rt_Js_indexOf2 ?_
    exact K
  refine cl_in ml_Js_indexOf rfl rfl ?_
  refine wp_aload_n d_Js_indexOf_0 rfl rfl ?_
  refine wp_iload_n d_Js_indexOf_1 rfl rfl ?_
  refine wp_iconst (x := nI 0) d_Js_indexOf_2 rfl ?_
  refine wp_invV d_Js_indexOf_3 ow_Js_indexOf lk_10_633 (by decide) mi_Js_indexOf2 rfl rfl (Nat.le_of_ble_eq_true rfl) rfl rfl (show h_Js_indexOf2 ≤ _ from by decide) (hI2 _ ?_)
  refine wp_Ki ?_
  refine wp_reti d_Js_indexOf_6 rt_Js_indexOf ?_
  exact K
end CX
