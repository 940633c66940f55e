/-! the class: the reader's small methods -/
theorem xo_mem {x : Int32} {T : List Int32} (hl : T.length < 1000) : ∀ m i, i + m = T.length → (0 ≤ sp_xo x T m i ↔ x ∈ T.drop i) := by
  intro m
  induction m with
  | zero =>
    intro i hi
    rw [sp_xo_0, List.drop_of_length_le (by omega)]
    exact ⟨fun y => absurd y (by decide), fun y => by cases y⟩
  | succ m ih =>
    intro i hi
    have hlt : i < T.length := by omega
    rw [sp_xo_s, List.drop_eq_getElem_cons hlt]
    have e : T.getD i 0 = T[i] := by rw [List.getD_eq_getElem?_getD, List.getElem?_eq_getElem hlt]; rfl
    rw [e, List.mem_cons]
    by_cases h : T[i] = x
    · rw [if_pos h]
      exact ⟨fun _ => Or.inl h.symm, fun _ => nI_pos' (by omega)⟩
    · rw [if_neg h, ih (i + 1) (by omega)]
      exact ⟨fun y => Or.inr y, fun y => y.elim (fun z => absurd z.symm h) id⟩
theorem xo_in {x : Int32} {T : List Int32} (hl : T.length < 1000) : 0 ≤ sp_xo x T T.length 0 ↔ x ∈ T := xo_mem hl T.length 0 (Nat.zero_add _)
def rC (S : wp_S) (u n : Nat) (tp : Nat → Int32) : Prop := S.1 = 10000 + u ∧ S.2 65 4 = nI n ∧ ∀ j, j < n → S.2 10 j = tp j
/-- the reader at a place, with so many open, good or not, with this code -/
def rS (S : wp_S) (u n : Nat) (tp : Nat → Int32) (k op : Nat) (g : Bool) (L : List Int32) : Prop := rC S u n tp ∧ S.2 65 5 = nI k ∧ S.2 65 6 = nI op ∧ S.2 65 7 = bi (g = false) ∧ S.2 65 1 = nI L.length ∧ ∀ i x, L[i]? = some x → S.2 66 i = x
def rB (n : Nat) (tp : Nat → Int32) : Prop := ∀ j, j < n → ∃ b, b < 256 ∧ tp j = nI b
def rD (k _j : Nat) : Prop := k = 65 ∨ k = 66
theorem rC_u {S : wp_S} {u n : Nat} {tp : Nat → Int32} (h : rC S u n tp) {k j : Nat} {x : Int32} (hk : k = 65 ∧ j ≠ 4 ∨ k = 66) : rC (wp_u S k j x) u n tp := ⟨h.1, (wp_un (by omega)).trans h.2.1, fun i hi => (wp_un (by omega)).trans (h.2.2 i hi)⟩
theorem rS_at {S : wp_S} {u n : Nat} {tp : Nat → Int32} {k op : Nat} {g : Bool} {L : List Int32} (h : rS S u n tp k op g L) (k' : Nat) : rS (wp_u S 65 5 (nI k')) u n tp k' op g L := ⟨rC_u h.1 (by omega), wp_us, (wp_un (by omega)).trans h.2.2.1, (wp_un (by omega)).trans h.2.2.2.1, (wp_un (by omega)).trans h.2.2.2.2.1, fun i x hi => (wp_un (by omega)).trans (h.2.2.2.2.2 i x hi)⟩
theorem rS_op {S : wp_S} {u n : Nat} {tp : Nat → Int32} {k op : Nat} {g : Bool} {L : List Int32} (h : rS S u n tp k op g L) (o : Nat) : rS (wp_u S 65 6 (nI o)) u n tp k o g L := ⟨rC_u h.1 (by omega), (wp_un (by omega)).trans h.2.1, wp_us, (wp_un (by omega)).trans h.2.2.2.1, (wp_un (by omega)).trans h.2.2.2.2.1, fun i x hi => (wp_un (by omega)).trans (h.2.2.2.2.2 i x hi)⟩
theorem rS_bad {S : wp_S} {u n : Nat} {tp : Nat → Int32} {k op : Nat} {g : Bool} {L : List Int32} (h : rS S u n tp k op g L) : rS (wp_u S 65 7 (nI 1)) u n tp k op false L := ⟨rC_u h.1 (by omega), (wp_un (by omega)).trans h.2.1, (wp_un (by omega)).trans h.2.2.1, wp_us, (wp_un (by omega)).trans h.2.2.2.2.1, fun i x hi => (wp_un (by omega)).trans (h.2.2.2.2.2 i x hi)⟩
theorem rS_em {S : wp_S} {u n : Nat} {tp : Nat → Int32} {k op : Nat} {g : Bool} {L : List Int32} (h : rS S u n tp k op g L) (y : Int32) : rS (wp_u (wp_u S 66 L.length y) 65 1 (nI (L.length + 1))) u n tp k op g (L ++ [y]) := by
  refine ⟨rC_u (rC_u h.1 (by omega)) (by omega), (wp_un (by omega)).trans ((wp_un (by omega)).trans h.2.1), (wp_un (by omega)).trans ((wp_un (by omega)).trans h.2.2.1), (wp_un (by omega)).trans ((wp_un (by omega)).trans h.2.2.2.1), ?_, fun i x hi => (wp_un (by omega)).trans ?_⟩
  · rw [List.length_append]
    exact wp_us
  · rw [wp_u2]
    by_cases e : i = L.length
    · rw [if_pos ⟨rfl, e⟩]
      rw [e, List.getElem?_append_right (Nat.le_refl _), Nat.sub_self] at hi
      cases hi
      rfl
    · rw [if_neg (fun z => e z.2)]
      have hlt : i < L.length := by
        have := (List.getElem?_eq_some_iff.mp hi).1
        rw [List.length_append] at this
        have e1 : [y].length = 1 := rfl
        omega
      rw [List.getElem?_append_left hlt] at hi
      exact h.2.2.2.2.2 i x hi
theorem rD_u {S S1 : wp_S} (f : fr rD S S1) {j : Nat} {x : Int32} : fr rD S (wp_u S1 65 j x) := f.up (Or.inl rfl)
theorem i_c2 {b : Nat} (hb : b < 65536) : ((nI b).toUInt32 % 65536).toInt32 = nI b := by
  rw [lg_i2c_nf]
  have := nI_toInt (n := b) (by omega)
  exact lg_i2c_word (by omega) (by omega)
section CY
variable {S : wp_S} {u n : Nat} {tp : Nat → Int32} {k op : Nat} {g : Bool} {L : List Int32} {Q : Option Value → wp_S → Prop}
theorem c_take (h : rS S u n tp k op g L) (hn : n ≤ 50) (hk : k < n) (K : Q (some (.int (tp k))) (wp_u S 65 5 (nI (k + 1)))) : cl h_Re_take y_Re_take [.ref 65] S Q := by
  refine cl_in ml_Re_take rfl rfl ?_
  refine wp_aload_n d_Re_take_0 rfl rfl ?_
  refine wp_getI d_Re_take_1 ow_Re_take fl_3_28 (O_65 _) rfl (h.2.1) ?_
  refine wp_aload_n d_Re_take_4 rfl rfl ?_
  refine wp_getI d_Re_take_5 ow_Re_take fl_3_25 (O_65 _) rfl (h.1.2.1) ?_
  refine wp_icN_lt (pc' := 13) d_Re_take_8 (by decide) (by omega) (by omega) (fun h8 => ?_) (fun h8 => absurd h8 (by omega))
  refine wp_aload_n d_Re_take_13 rfl rfl ?_
  refine wp_getR d_Re_take_14 ow_Re_take fl_3_38 (O_65 _) rfl ?_
  refine wp_aload_n d_Re_take_17 rfl rfl ?_
  refine wp_getI d_Re_take_18 ow_Re_take fl_3_28 (O_65 _) rfl (h.2.1) ?_
  refine wp_iaload d_Re_take_21 (A_10 _) (by omega) (by decide) (h.1.2.2 k hk) ?_
  refine wp_iston1 d_Re_take_22 rfl ?_
  refine wp_aload_n d_Re_take_23 rfl rfl ?_
  refine wp_dup d_Re_take_24 rfl ?_
  refine wp_getI d_Re_take_25 ow_Re_take fl_3_28 (O_65 _) rfl (h.2.1) ?_
  refine wp_iconst (x := nI 1) d_Re_take_28 rfl ?_
  refine wp_iadd d_Re_take_29 (nI_add _ _) ?_
  refine wp_put (ty := .int) d_Re_take_30 ow_Re_take fl_3_28 (by decide +kernel) (by decide +kernel) (O_65 _) rfl ⟨rfl, rfl⟩ ?_
  refine wp_iload_n d_Re_take_33 rfl rfl ?_
  refine wp_reti d_Re_take_34 rt_Re_take ?_
  exact K
theorem c_emit (h : rS S u n tp k op g L) (hl : L.length < 50) (x : Int32) (K : Q none (wp_u (wp_u S 66 L.length x) 65 1 (nI (L.length + 1)))) : cl h_Re_emit y_Re_emit [.ref 65, .int x] S Q := by
  refine cl_in ml_Re_emit rfl rfl ?_
  refine wp_aload_n d_Re_emit_0 rfl rfl ?_
  refine wp_getI d_Re_emit_1 ow_Re_emit fl_3_15 (O_65 _) rfl (h.2.2.2.2.1) ?_
  refine wp_aload_n d_Re_emit_4 rfl rfl ?_
  refine wp_getR d_Re_emit_5 ow_Re_emit fl_3_9 (O_65 _) rfl ?_
  refine wp_arraylength d_Re_emit_8 (wp_alA (A_66 _)) ?_
  refine wp_icN_ge (pc' := 32) d_Re_emit_9 (by decide) (by omega) (by omega) (fun h9 => absurd h9 (by omega)) (fun h9 => ?_)
  refine wp_aload_n d_Re_emit_12 rfl rfl ?_
  refine wp_getR d_Re_emit_13 ow_Re_emit fl_3_9 (O_65 _) rfl ?_
  refine wp_aload_n d_Re_emit_16 rfl rfl ?_
  refine wp_getI d_Re_emit_17 ow_Re_emit fl_3_15 (O_65 _) rfl (h.2.2.2.2.1) ?_
  refine wp_iload_n d_Re_emit_20 rfl rfl ?_
  refine wp_iastore d_Re_emit_21 (A_66 _) (by omega) (by decide) ?_
  refine wp_aload_n d_Re_emit_22 rfl rfl ?_
  refine wp_dup d_Re_emit_23 rfl ?_
  refine wp_getI d_Re_emit_24 ow_Re_emit fl_3_15 (O_65 _) rfl ((wp_un (by omega)).trans h.2.2.2.2.1) ?_
  refine wp_iconst (x := nI 1) d_Re_emit_27 rfl ?_
  refine wp_iadd d_Re_emit_28 (nI_add _ _) ?_
  refine wp_put (ty := .int) d_Re_emit_29 ow_Re_emit fl_3_15 (by decide +kernel) (by decide +kernel) (O_65 _) rfl ⟨rfl, rfl⟩ ?_
  refine wp_return d_Re_emit_32 rt_Re_emit ?_
  exact K
theorem sp_by_lt {k : Nat} (hk : k < n) : sp_by tp n k = tp k := if_pos hk
theorem sp_by_ge {k : Nat} (hk : ¬ k < n) : sp_by tp n k = -1 := if_neg hk
theorem c_next0 (h : rS S u n tp k op g L) (hn : n ≤ 50) (hkn : k ≤ n) (hB : rB n tp) (K1 : g = true ∧ sp_by tp n k ∈ [110, 116, 102] → Q (some (.int (nI 1))) S) (K0 : ¬ (g = true ∧ sp_by tp n k ∈ [110, 116, 102]) → Q (some (.int (nI 0))) S) : cl h_Re_isNextOf y_Re_isNextOf [.ref 65, .ref 10000] S Q := by
  by_cases hg : g = false
  · have K0 := K0 (fun y => by rw [hg] at y; exact absurd y.1 (by decide))
    refine cl_in ml_Re_isNextOf rfl rfl ?_
    refine wp_aload_n d_Re_isNextOf_0 rfl rfl ?_
    refine wp_getI d_Re_isNextOf_1 ow_Re_isNextOf fl_3_34 (O_65 _) rfl (h.2.2.2.1) ?_
    refine wp_ifB_ne (pc' := 39) d_Re_isNextOf_4 (by decide) (fun h4 => ?_) (fun h4 => absurd hg h4)
    refine wp_iconst (x := nI 0) d_Re_isNextOf_39 rfl ?_
    refine wp_retz d_Re_isNextOf_40 rt_Re_isNextOf (by first | exact Or.inl rfl | exact Or.inr rfl) ?_
    exact K0
  · have hg1 : g = true := by cases g; exact absurd rfl hg; rfl
    by_cases hk : k < n
    · obtain ⟨b, hb, eb⟩ := hB k hk
      rw [sp_by_lt hk, eb] at K1 K0
      have hm : 0 ≤ sp_xo (nI b) [110, 116, 102] 3 0 ↔ nI b ∈ [110, 116, 102] := xo_in (T := [110, 116, 102]) (by decide)
      refine cl_in ml_Re_isNextOf rfl rfl ?_
      refine wp_aload_n d_Re_isNextOf_0 rfl rfl ?_
      refine wp_getI d_Re_isNextOf_1 ow_Re_isNextOf fl_3_34 (O_65 _) rfl (h.2.2.2.1) ?_
      refine wp_ifB_ne (pc' := 39) d_Re_isNextOf_4 (by decide) (fun h4 => absurd h4 hg) (fun h4 => ?_)
      refine wp_aload_n d_Re_isNextOf_7 rfl rfl ?_
      refine wp_getI d_Re_isNextOf_8 ow_Re_isNextOf fl_3_28 (O_65 _) rfl (h.2.1) ?_
      refine wp_aload_n d_Re_isNextOf_11 rfl rfl ?_
      refine wp_getI d_Re_isNextOf_12 ow_Re_isNextOf fl_3_25 (O_65 _) rfl (h.1.2.1) ?_
      refine wp_icN_ge (pc' := 39) d_Re_isNextOf_15 (by decide) (by omega) (by omega) (fun h15 => absurd h15 (by omega)) (fun h15 => ?_)
      refine wp_aload_n d_Re_isNextOf_18 rfl rfl ?_
      refine wp_aload_n d_Re_isNextOf_19 rfl rfl ?_
      refine wp_getR d_Re_isNextOf_20 ow_Re_isNextOf fl_3_38 (O_65 _) rfl ?_
      refine wp_aload_n d_Re_isNextOf_23 rfl rfl ?_
      refine wp_getI d_Re_isNextOf_24 ow_Re_isNextOf fl_3_28 (O_65 _) rfl (h.2.1) ?_
      refine wp_iaload d_Re_isNextOf_27 (A_10 _) (by omega) (by decide) ((h.1.2.2 k hk).trans eb) ?_
      refine wp_i2c d_Re_isNextOf_28 (i_c2 (by omega)) ?_
      refine wp_invV d_Re_isNextOf_29 ow_Re_isNextOf lk_3_86 (by decide) mi_Js_indexOf rfl rfl (Nat.le_of_ble_eq_true rfl) rfl rfl (show h_Js_indexOf ≤ _ from by decide) (c_ix0 hb ?_)
      refine wp_Ki ?_
      refine wp_if_lt (pc' := 39) d_Re_isNextOf_32 (by decide) (fun h32 => ?_) (fun h32 => ?_)
      · refine wp_iconst (x := nI 0) d_Re_isNextOf_39 rfl ?_
        refine wp_retz d_Re_isNextOf_40 rt_Re_isNextOf (by first | exact Or.inl rfl | exact Or.inr rfl) ?_
        exact K0 (fun y => absurd (hm.mpr y.2) (Int32.not_le.mpr h32))
      · refine wp_iconst (x := nI 1) d_Re_isNextOf_35 rfl ?_
        refine wp_goto (pc' := 40) d_Re_isNextOf_36 (by decide) ?_
        refine wp_retz d_Re_isNextOf_40 rt_Re_isNextOf (by first | exact Or.inl rfl | exact Or.inr rfl) ?_
        exact K1 ⟨hg1, hm.mp (Int32.not_lt.mp h32)⟩
    · have K0 := K0 (fun y => by rw [sp_by_ge hk] at y; exact absurd y.2 (by decide))
      refine cl_in ml_Re_isNextOf rfl rfl ?_
      refine wp_aload_n d_Re_isNextOf_0 rfl rfl ?_
      refine wp_getI d_Re_isNextOf_1 ow_Re_isNextOf fl_3_34 (O_65 _) rfl (h.2.2.2.1) ?_
      refine wp_ifB_ne (pc' := 39) d_Re_isNextOf_4 (by decide) (fun h4 => absurd h4 hg) (fun h4 => ?_)
      refine wp_aload_n d_Re_isNextOf_7 rfl rfl ?_
      refine wp_getI d_Re_isNextOf_8 ow_Re_isNextOf fl_3_28 (O_65 _) rfl (h.2.1) ?_
      refine wp_aload_n d_Re_isNextOf_11 rfl rfl ?_
      refine wp_getI d_Re_isNextOf_12 ow_Re_isNextOf fl_3_25 (O_65 _) rfl (h.1.2.1) ?_
      refine wp_icN_ge (pc' := 39) d_Re_isNextOf_15 (by decide) (by omega) (by omega) (fun h15 => ?_) (fun h15 => absurd h15 (by omega))
      refine wp_iconst (x := nI 0) d_Re_isNextOf_39 rfl ?_
      refine wp_retz d_Re_isNextOf_40 rt_Re_isNextOf (by first | exact Or.inl rfl | exact Or.inr rfl) ?_
      exact K0
theorem c_next1 (h : rS S u n tp k op g L) (hn : n ≤ 50) (hkn : k ≤ n) (hB : rB n tp) (K1 : g = true ∧ sp_by tp n k ∈ [97, 110, 109] → Q (some (.int (nI 1))) S) (K0 : ¬ (g = true ∧ sp_by tp n k ∈ [97, 110, 109]) → Q (some (.int (nI 0))) S) : cl h_Re_isNextOf y_Re_isNextOf [.ref 65, .ref 10001] S Q := by
  by_cases hg : g = false
  · have K0 := K0 (fun y => by rw [hg] at y; exact absurd y.1 (by decide))
    refine cl_in ml_Re_isNextOf rfl rfl ?_
    refine wp_aload_n d_Re_isNextOf_0 rfl rfl ?_
    refine wp_getI d_Re_isNextOf_1 ow_Re_isNextOf fl_3_34 (O_65 _) rfl (h.2.2.2.1) ?_
    refine wp_ifB_ne (pc' := 39) d_Re_isNextOf_4 (by decide) (fun h4 => ?_) (fun h4 => absurd hg h4)
    refine wp_iconst (x := nI 0) d_Re_isNextOf_39 rfl ?_
    refine wp_retz d_Re_isNextOf_40 rt_Re_isNextOf (by first | exact Or.inl rfl | exact Or.inr rfl) ?_
    exact K0
  · have hg1 : g = true := by cases g; exact absurd rfl hg; rfl
    by_cases hk : k < n
    · obtain ⟨b, hb, eb⟩ := hB k hk
      rw [sp_by_lt hk, eb] at K1 K0
      have hm : 0 ≤ sp_xo (nI b) [97, 110, 109] 3 0 ↔ nI b ∈ [97, 110, 109] := xo_in (T := [97, 110, 109]) (by decide)
      refine cl_in ml_Re_isNextOf rfl rfl ?_
      refine wp_aload_n d_Re_isNextOf_0 rfl rfl ?_
      refine wp_getI d_Re_isNextOf_1 ow_Re_isNextOf fl_3_34 (O_65 _) rfl (h.2.2.2.1) ?_
      refine wp_ifB_ne (pc' := 39) d_Re_isNextOf_4 (by decide) (fun h4 => absurd h4 hg) (fun h4 => ?_)
      refine wp_aload_n d_Re_isNextOf_7 rfl rfl ?_
      refine wp_getI d_Re_isNextOf_8 ow_Re_isNextOf fl_3_28 (O_65 _) rfl (h.2.1) ?_
      refine wp_aload_n d_Re_isNextOf_11 rfl rfl ?_
      refine wp_getI d_Re_isNextOf_12 ow_Re_isNextOf fl_3_25 (O_65 _) rfl (h.1.2.1) ?_
      refine wp_icN_ge (pc' := 39) d_Re_isNextOf_15 (by decide) (by omega) (by omega) (fun h15 => absurd h15 (by omega)) (fun h15 => ?_)
      refine wp_aload_n d_Re_isNextOf_18 rfl rfl ?_
      refine wp_aload_n d_Re_isNextOf_19 rfl rfl ?_
      refine wp_getR d_Re_isNextOf_20 ow_Re_isNextOf fl_3_38 (O_65 _) rfl ?_
      refine wp_aload_n d_Re_isNextOf_23 rfl rfl ?_
      refine wp_getI d_Re_isNextOf_24 ow_Re_isNextOf fl_3_28 (O_65 _) rfl (h.2.1) ?_
      refine wp_iaload d_Re_isNextOf_27 (A_10 _) (by omega) (by decide) ((h.1.2.2 k hk).trans eb) ?_
      refine wp_i2c d_Re_isNextOf_28 (i_c2 (by omega)) ?_
      refine wp_invV d_Re_isNextOf_29 ow_Re_isNextOf lk_3_86 (by decide) mi_Js_indexOf rfl rfl (Nat.le_of_ble_eq_true rfl) rfl rfl (show h_Js_indexOf ≤ _ from by decide) (c_ix1 hb ?_)
      refine wp_Ki ?_
      refine wp_if_lt (pc' := 39) d_Re_isNextOf_32 (by decide) (fun h32 => ?_) (fun h32 => ?_)
      · refine wp_iconst (x := nI 0) d_Re_isNextOf_39 rfl ?_
        refine wp_retz d_Re_isNextOf_40 rt_Re_isNextOf (by first | exact Or.inl rfl | exact Or.inr rfl) ?_
        exact K0 (fun y => absurd (hm.mpr y.2) (Int32.not_le.mpr h32))
      · refine wp_iconst (x := nI 1) d_Re_isNextOf_35 rfl ?_
        refine wp_goto (pc' := 40) d_Re_isNextOf_36 (by decide) ?_
        refine wp_retz d_Re_isNextOf_40 rt_Re_isNextOf (by first | exact Or.inl rfl | exact Or.inr rfl) ?_
        exact K1 ⟨hg1, hm.mp (Int32.not_lt.mp h32)⟩
    · have K0 := K0 (fun y => by rw [sp_by_ge hk] at y; exact absurd y.2 (by decide))
      refine cl_in ml_Re_isNextOf rfl rfl ?_
      refine wp_aload_n d_Re_isNextOf_0 rfl rfl ?_
      refine wp_getI d_Re_isNextOf_1 ow_Re_isNextOf fl_3_34 (O_65 _) rfl (h.2.2.2.1) ?_
      refine wp_ifB_ne (pc' := 39) d_Re_isNextOf_4 (by decide) (fun h4 => absurd h4 hg) (fun h4 => ?_)
      refine wp_aload_n d_Re_isNextOf_7 rfl rfl ?_
      refine wp_getI d_Re_isNextOf_8 ow_Re_isNextOf fl_3_28 (O_65 _) rfl (h.2.1) ?_
      refine wp_aload_n d_Re_isNextOf_11 rfl rfl ?_
      refine wp_getI d_Re_isNextOf_12 ow_Re_isNextOf fl_3_25 (O_65 _) rfl (h.1.2.1) ?_
      refine wp_icN_ge (pc' := 39) d_Re_isNextOf_15 (by decide) (by omega) (by omega) (fun h15 => ?_) (fun h15 => absurd h15 (by omega))
      refine wp_iconst (x := nI 0) d_Re_isNextOf_39 rfl ?_
      refine wp_retz d_Re_isNextOf_40 rt_Re_isNextOf (by first | exact Or.inl rfl | exact Or.inr rfl) ?_
      exact K0
theorem c_next3 (h : rS S u n tp k op g L) (hn : n ≤ 50) (hkn : k ≤ n) (hB : rB n tp) (K1 : g = true ∧ sp_by tp n k ∈ [48, 49, 50, 51, 52, 53, 54, 55, 56, 57] → Q (some (.int (nI 1))) S) (K0 : ¬ (g = true ∧ sp_by tp n k ∈ [48, 49, 50, 51, 52, 53, 54, 55, 56, 57]) → Q (some (.int (nI 0))) S) : cl h_Re_isNextOf y_Re_isNextOf [.ref 65, .ref 10003] S Q := by
  by_cases hg : g = false
  · have K0 := K0 (fun y => by rw [hg] at y; exact absurd y.1 (by decide))
    refine cl_in ml_Re_isNextOf rfl rfl ?_
    refine wp_aload_n d_Re_isNextOf_0 rfl rfl ?_
    refine wp_getI d_Re_isNextOf_1 ow_Re_isNextOf fl_3_34 (O_65 _) rfl (h.2.2.2.1) ?_
    refine wp_ifB_ne (pc' := 39) d_Re_isNextOf_4 (by decide) (fun h4 => ?_) (fun h4 => absurd hg h4)
    refine wp_iconst (x := nI 0) d_Re_isNextOf_39 rfl ?_
    refine wp_retz d_Re_isNextOf_40 rt_Re_isNextOf (by first | exact Or.inl rfl | exact Or.inr rfl) ?_
    exact K0
  · have hg1 : g = true := by cases g; exact absurd rfl hg; rfl
    by_cases hk : k < n
    · obtain ⟨b, hb, eb⟩ := hB k hk
      rw [sp_by_lt hk, eb] at K1 K0
      have hm : 0 ≤ sp_xo (nI b) [48, 49, 50, 51, 52, 53, 54, 55, 56, 57] 10 0 ↔ nI b ∈ [48, 49, 50, 51, 52, 53, 54, 55, 56, 57] := xo_in (T := [48, 49, 50, 51, 52, 53, 54, 55, 56, 57]) (by decide)
      refine cl_in ml_Re_isNextOf rfl rfl ?_
      refine wp_aload_n d_Re_isNextOf_0 rfl rfl ?_
      refine wp_getI d_Re_isNextOf_1 ow_Re_isNextOf fl_3_34 (O_65 _) rfl (h.2.2.2.1) ?_
      refine wp_ifB_ne (pc' := 39) d_Re_isNextOf_4 (by decide) (fun h4 => absurd h4 hg) (fun h4 => ?_)
      refine wp_aload_n d_Re_isNextOf_7 rfl rfl ?_
      refine wp_getI d_Re_isNextOf_8 ow_Re_isNextOf fl_3_28 (O_65 _) rfl (h.2.1) ?_
      refine wp_aload_n d_Re_isNextOf_11 rfl rfl ?_
      refine wp_getI d_Re_isNextOf_12 ow_Re_isNextOf fl_3_25 (O_65 _) rfl (h.1.2.1) ?_
      refine wp_icN_ge (pc' := 39) d_Re_isNextOf_15 (by decide) (by omega) (by omega) (fun h15 => absurd h15 (by omega)) (fun h15 => ?_)
      refine wp_aload_n d_Re_isNextOf_18 rfl rfl ?_
      refine wp_aload_n d_Re_isNextOf_19 rfl rfl ?_
      refine wp_getR d_Re_isNextOf_20 ow_Re_isNextOf fl_3_38 (O_65 _) rfl ?_
      refine wp_aload_n d_Re_isNextOf_23 rfl rfl ?_
      refine wp_getI d_Re_isNextOf_24 ow_Re_isNextOf fl_3_28 (O_65 _) rfl (h.2.1) ?_
      refine wp_iaload d_Re_isNextOf_27 (A_10 _) (by omega) (by decide) ((h.1.2.2 k hk).trans eb) ?_
      refine wp_i2c d_Re_isNextOf_28 (i_c2 (by omega)) ?_
      refine wp_invV d_Re_isNextOf_29 ow_Re_isNextOf lk_3_86 (by decide) mi_Js_indexOf rfl rfl (Nat.le_of_ble_eq_true rfl) rfl rfl (show h_Js_indexOf ≤ _ from by decide) (c_ix3 hb ?_)
      refine wp_Ki ?_
      refine wp_if_lt (pc' := 39) d_Re_isNextOf_32 (by decide) (fun h32 => ?_) (fun h32 => ?_)
      · refine wp_iconst (x := nI 0) d_Re_isNextOf_39 rfl ?_
        refine wp_retz d_Re_isNextOf_40 rt_Re_isNextOf (by first | exact Or.inl rfl | exact Or.inr rfl) ?_
        exact K0 (fun y => absurd (hm.mpr y.2) (Int32.not_le.mpr h32))
      · refine wp_iconst (x := nI 1) d_Re_isNextOf_35 rfl ?_
        refine wp_goto (pc' := 40) d_Re_isNextOf_36 (by decide) ?_
        refine wp_retz d_Re_isNextOf_40 rt_Re_isNextOf (by first | exact Or.inl rfl | exact Or.inr rfl) ?_
        exact K1 ⟨hg1, hm.mp (Int32.not_lt.mp h32)⟩
    · have K0 := K0 (fun y => by rw [sp_by_ge hk] at y; exact absurd y.2 (by decide))
      refine cl_in ml_Re_isNextOf rfl rfl ?_
      refine wp_aload_n d_Re_isNextOf_0 rfl rfl ?_
      refine wp_getI d_Re_isNextOf_1 ow_Re_isNextOf fl_3_34 (O_65 _) rfl (h.2.2.2.1) ?_
      refine wp_ifB_ne (pc' := 39) d_Re_isNextOf_4 (by decide) (fun h4 => absurd h4 hg) (fun h4 => ?_)
      refine wp_aload_n d_Re_isNextOf_7 rfl rfl ?_
      refine wp_getI d_Re_isNextOf_8 ow_Re_isNextOf fl_3_28 (O_65 _) rfl (h.2.1) ?_
      refine wp_aload_n d_Re_isNextOf_11 rfl rfl ?_
      refine wp_getI d_Re_isNextOf_12 ow_Re_isNextOf fl_3_25 (O_65 _) rfl (h.1.2.1) ?_
      refine wp_icN_ge (pc' := 39) d_Re_isNextOf_15 (by decide) (by omega) (by omega) (fun h15 => ?_) (fun h15 => absurd h15 (by omega))
      refine wp_iconst (x := nI 0) d_Re_isNextOf_39 rfl ?_
      refine wp_retz d_Re_isNextOf_40 rt_Re_isNextOf (by first | exact Or.inl rfl | exact Or.inr rfl) ?_
      exact K0
theorem c_next4 (h : rS S u n tp k op g L) (hn : n ≤ 50) (hkn : k ≤ n) (hB : rB n tp) (K1 : g = true ∧ sp_by tp n k ∈ [33, 40] → Q (some (.int (nI 1))) S) (K0 : ¬ (g = true ∧ sp_by tp n k ∈ [33, 40]) → Q (some (.int (nI 0))) S) : cl h_Re_isNextOf y_Re_isNextOf [.ref 65, .ref 10004] S Q := by
  by_cases hg : g = false
  · have K0 := K0 (fun y => by rw [hg] at y; exact absurd y.1 (by decide))
    refine cl_in ml_Re_isNextOf rfl rfl ?_
    refine wp_aload_n d_Re_isNextOf_0 rfl rfl ?_
    refine wp_getI d_Re_isNextOf_1 ow_Re_isNextOf fl_3_34 (O_65 _) rfl (h.2.2.2.1) ?_
    refine wp_ifB_ne (pc' := 39) d_Re_isNextOf_4 (by decide) (fun h4 => ?_) (fun h4 => absurd hg h4)
    refine wp_iconst (x := nI 0) d_Re_isNextOf_39 rfl ?_
    refine wp_retz d_Re_isNextOf_40 rt_Re_isNextOf (by first | exact Or.inl rfl | exact Or.inr rfl) ?_
    exact K0
  · have hg1 : g = true := by cases g; exact absurd rfl hg; rfl
    by_cases hk : k < n
    · obtain ⟨b, hb, eb⟩ := hB k hk
      rw [sp_by_lt hk, eb] at K1 K0
      have hm : 0 ≤ sp_xo (nI b) [33, 40] 2 0 ↔ nI b ∈ [33, 40] := xo_in (T := [33, 40]) (by decide)
      refine cl_in ml_Re_isNextOf rfl rfl ?_
      refine wp_aload_n d_Re_isNextOf_0 rfl rfl ?_
      refine wp_getI d_Re_isNextOf_1 ow_Re_isNextOf fl_3_34 (O_65 _) rfl (h.2.2.2.1) ?_
      refine wp_ifB_ne (pc' := 39) d_Re_isNextOf_4 (by decide) (fun h4 => absurd h4 hg) (fun h4 => ?_)
      refine wp_aload_n d_Re_isNextOf_7 rfl rfl ?_
      refine wp_getI d_Re_isNextOf_8 ow_Re_isNextOf fl_3_28 (O_65 _) rfl (h.2.1) ?_
      refine wp_aload_n d_Re_isNextOf_11 rfl rfl ?_
      refine wp_getI d_Re_isNextOf_12 ow_Re_isNextOf fl_3_25 (O_65 _) rfl (h.1.2.1) ?_
      refine wp_icN_ge (pc' := 39) d_Re_isNextOf_15 (by decide) (by omega) (by omega) (fun h15 => absurd h15 (by omega)) (fun h15 => ?_)
      refine wp_aload_n d_Re_isNextOf_18 rfl rfl ?_
      refine wp_aload_n d_Re_isNextOf_19 rfl rfl ?_
      refine wp_getR d_Re_isNextOf_20 ow_Re_isNextOf fl_3_38 (O_65 _) rfl ?_
      refine wp_aload_n d_Re_isNextOf_23 rfl rfl ?_
      refine wp_getI d_Re_isNextOf_24 ow_Re_isNextOf fl_3_28 (O_65 _) rfl (h.2.1) ?_
      refine wp_iaload d_Re_isNextOf_27 (A_10 _) (by omega) (by decide) ((h.1.2.2 k hk).trans eb) ?_
      refine wp_i2c d_Re_isNextOf_28 (i_c2 (by omega)) ?_
      refine wp_invV d_Re_isNextOf_29 ow_Re_isNextOf lk_3_86 (by decide) mi_Js_indexOf rfl rfl (Nat.le_of_ble_eq_true rfl) rfl rfl (show h_Js_indexOf ≤ _ from by decide) (c_ix4 hb ?_)
      refine wp_Ki ?_
      refine wp_if_lt (pc' := 39) d_Re_isNextOf_32 (by decide) (fun h32 => ?_) (fun h32 => ?_)
      · refine wp_iconst (x := nI 0) d_Re_isNextOf_39 rfl ?_
        refine wp_retz d_Re_isNextOf_40 rt_Re_isNextOf (by first | exact Or.inl rfl | exact Or.inr rfl) ?_
        exact K0 (fun y => absurd (hm.mpr y.2) (Int32.not_le.mpr h32))
      · refine wp_iconst (x := nI 1) d_Re_isNextOf_35 rfl ?_
        refine wp_goto (pc' := 40) d_Re_isNextOf_36 (by decide) ?_
        refine wp_retz d_Re_isNextOf_40 rt_Re_isNextOf (by first | exact Or.inl rfl | exact Or.inr rfl) ?_
        exact K1 ⟨hg1, hm.mp (Int32.not_lt.mp h32)⟩
    · have K0 := K0 (fun y => by rw [sp_by_ge hk] at y; exact absurd y.2 (by decide))
      refine cl_in ml_Re_isNextOf rfl rfl ?_
      refine wp_aload_n d_Re_isNextOf_0 rfl rfl ?_
      refine wp_getI d_Re_isNextOf_1 ow_Re_isNextOf fl_3_34 (O_65 _) rfl (h.2.2.2.1) ?_
      refine wp_ifB_ne (pc' := 39) d_Re_isNextOf_4 (by decide) (fun h4 => absurd h4 hg) (fun h4 => ?_)
      refine wp_aload_n d_Re_isNextOf_7 rfl rfl ?_
      refine wp_getI d_Re_isNextOf_8 ow_Re_isNextOf fl_3_28 (O_65 _) rfl (h.2.1) ?_
      refine wp_aload_n d_Re_isNextOf_11 rfl rfl ?_
      refine wp_getI d_Re_isNextOf_12 ow_Re_isNextOf fl_3_25 (O_65 _) rfl (h.1.2.1) ?_
      refine wp_icN_ge (pc' := 39) d_Re_isNextOf_15 (by decide) (by omega) (by omega) (fun h15 => ?_) (fun h15 => absurd h15 (by omega))
      refine wp_iconst (x := nI 0) d_Re_isNextOf_39 rfl ?_
      refine wp_retz d_Re_isNextOf_40 rt_Re_isNextOf (by first | exact Or.inl rfl | exact Or.inr rfl) ?_
      exact K0
theorem c_next5 (h : rS S u n tp k op g L) (hn : n ≤ 50) (hkn : k ≤ n) (hB : rB n tp) (K1 : g = true ∧ sp_by tp n k ∈ [41] → Q (some (.int (nI 1))) S) (K0 : ¬ (g = true ∧ sp_by tp n k ∈ [41]) → Q (some (.int (nI 0))) S) : cl h_Re_isNextOf y_Re_isNextOf [.ref 65, .ref 10005] S Q := by
  by_cases hg : g = false
  · have K0 := K0 (fun y => by rw [hg] at y; exact absurd y.1 (by decide))
    refine cl_in ml_Re_isNextOf rfl rfl ?_
    refine wp_aload_n d_Re_isNextOf_0 rfl rfl ?_
    refine wp_getI d_Re_isNextOf_1 ow_Re_isNextOf fl_3_34 (O_65 _) rfl (h.2.2.2.1) ?_
    refine wp_ifB_ne (pc' := 39) d_Re_isNextOf_4 (by decide) (fun h4 => ?_) (fun h4 => absurd hg h4)
    refine wp_iconst (x := nI 0) d_Re_isNextOf_39 rfl ?_
    refine wp_retz d_Re_isNextOf_40 rt_Re_isNextOf (by first | exact Or.inl rfl | exact Or.inr rfl) ?_
    exact K0
  · have hg1 : g = true := by cases g; exact absurd rfl hg; rfl
    by_cases hk : k < n
    · obtain ⟨b, hb, eb⟩ := hB k hk
      rw [sp_by_lt hk, eb] at K1 K0
      have hm : 0 ≤ sp_xo (nI b) [41] 1 0 ↔ nI b ∈ [41] := xo_in (T := [41]) (by decide)
      refine cl_in ml_Re_isNextOf rfl rfl ?_
      refine wp_aload_n d_Re_isNextOf_0 rfl rfl ?_
      refine wp_getI d_Re_isNextOf_1 ow_Re_isNextOf fl_3_34 (O_65 _) rfl (h.2.2.2.1) ?_
      refine wp_ifB_ne (pc' := 39) d_Re_isNextOf_4 (by decide) (fun h4 => absurd h4 hg) (fun h4 => ?_)
      refine wp_aload_n d_Re_isNextOf_7 rfl rfl ?_
      refine wp_getI d_Re_isNextOf_8 ow_Re_isNextOf fl_3_28 (O_65 _) rfl (h.2.1) ?_
      refine wp_aload_n d_Re_isNextOf_11 rfl rfl ?_
      refine wp_getI d_Re_isNextOf_12 ow_Re_isNextOf fl_3_25 (O_65 _) rfl (h.1.2.1) ?_
      refine wp_icN_ge (pc' := 39) d_Re_isNextOf_15 (by decide) (by omega) (by omega) (fun h15 => absurd h15 (by omega)) (fun h15 => ?_)
      refine wp_aload_n d_Re_isNextOf_18 rfl rfl ?_
      refine wp_aload_n d_Re_isNextOf_19 rfl rfl ?_
      refine wp_getR d_Re_isNextOf_20 ow_Re_isNextOf fl_3_38 (O_65 _) rfl ?_
      refine wp_aload_n d_Re_isNextOf_23 rfl rfl ?_
      refine wp_getI d_Re_isNextOf_24 ow_Re_isNextOf fl_3_28 (O_65 _) rfl (h.2.1) ?_
      refine wp_iaload d_Re_isNextOf_27 (A_10 _) (by omega) (by decide) ((h.1.2.2 k hk).trans eb) ?_
      refine wp_i2c d_Re_isNextOf_28 (i_c2 (by omega)) ?_
      refine wp_invV d_Re_isNextOf_29 ow_Re_isNextOf lk_3_86 (by decide) mi_Js_indexOf rfl rfl (Nat.le_of_ble_eq_true rfl) rfl rfl (show h_Js_indexOf ≤ _ from by decide) (c_ix5 hb ?_)
      refine wp_Ki ?_
      refine wp_if_lt (pc' := 39) d_Re_isNextOf_32 (by decide) (fun h32 => ?_) (fun h32 => ?_)
      · refine wp_iconst (x := nI 0) d_Re_isNextOf_39 rfl ?_
        refine wp_retz d_Re_isNextOf_40 rt_Re_isNextOf (by first | exact Or.inl rfl | exact Or.inr rfl) ?_
        exact K0 (fun y => absurd (hm.mpr y.2) (Int32.not_le.mpr h32))
      · refine wp_iconst (x := nI 1) d_Re_isNextOf_35 rfl ?_
        refine wp_goto (pc' := 40) d_Re_isNextOf_36 (by decide) ?_
        refine wp_retz d_Re_isNextOf_40 rt_Re_isNextOf (by first | exact Or.inl rfl | exact Or.inr rfl) ?_
        exact K1 ⟨hg1, hm.mp (Int32.not_lt.mp h32)⟩
    · have K0 := K0 (fun y => by rw [sp_by_ge hk] at y; exact absurd y.2 (by decide))
      refine cl_in ml_Re_isNextOf rfl rfl ?_
      refine wp_aload_n d_Re_isNextOf_0 rfl rfl ?_
      refine wp_getI d_Re_isNextOf_1 ow_Re_isNextOf fl_3_34 (O_65 _) rfl (h.2.2.2.1) ?_
      refine wp_ifB_ne (pc' := 39) d_Re_isNextOf_4 (by decide) (fun h4 => absurd h4 hg) (fun h4 => ?_)
      refine wp_aload_n d_Re_isNextOf_7 rfl rfl ?_
      refine wp_getI d_Re_isNextOf_8 ow_Re_isNextOf fl_3_28 (O_65 _) rfl (h.2.1) ?_
      refine wp_aload_n d_Re_isNextOf_11 rfl rfl ?_
      refine wp_getI d_Re_isNextOf_12 ow_Re_isNextOf fl_3_25 (O_65 _) rfl (h.1.2.1) ?_
      refine wp_icN_ge (pc' := 39) d_Re_isNextOf_15 (by decide) (by omega) (by omega) (fun h15 => ?_) (fun h15 => absurd h15 (by omega))
      refine wp_iconst (x := nI 0) d_Re_isNextOf_39 rfl ?_
      refine wp_retz d_Re_isNextOf_40 rt_Re_isNextOf (by first | exact Or.inl rfl | exact Or.inr rfl) ?_
      exact K0
theorem c_next6 (h : rS S u n tp k op g L) (hn : n ≤ 50) (hkn : k ≤ n) (hB : rB n tp) (K1 : g = true ∧ sp_by tp n k ∈ [124] → Q (some (.int (nI 1))) S) (K0 : ¬ (g = true ∧ sp_by tp n k ∈ [124]) → Q (some (.int (nI 0))) S) : cl h_Re_isNextOf y_Re_isNextOf [.ref 65, .ref 10006] S Q := by
  by_cases hg : g = false
  · have K0 := K0 (fun y => by rw [hg] at y; exact absurd y.1 (by decide))
    refine cl_in ml_Re_isNextOf rfl rfl ?_
    refine wp_aload_n d_Re_isNextOf_0 rfl rfl ?_
    refine wp_getI d_Re_isNextOf_1 ow_Re_isNextOf fl_3_34 (O_65 _) rfl (h.2.2.2.1) ?_
    refine wp_ifB_ne (pc' := 39) d_Re_isNextOf_4 (by decide) (fun h4 => ?_) (fun h4 => absurd hg h4)
    refine wp_iconst (x := nI 0) d_Re_isNextOf_39 rfl ?_
    refine wp_retz d_Re_isNextOf_40 rt_Re_isNextOf (by first | exact Or.inl rfl | exact Or.inr rfl) ?_
    exact K0
  · have hg1 : g = true := by cases g; exact absurd rfl hg; rfl
    by_cases hk : k < n
    · obtain ⟨b, hb, eb⟩ := hB k hk
      rw [sp_by_lt hk, eb] at K1 K0
      have hm : 0 ≤ sp_xo (nI b) [124] 1 0 ↔ nI b ∈ [124] := xo_in (T := [124]) (by decide)
      refine cl_in ml_Re_isNextOf rfl rfl ?_
      refine wp_aload_n d_Re_isNextOf_0 rfl rfl ?_
      refine wp_getI d_Re_isNextOf_1 ow_Re_isNextOf fl_3_34 (O_65 _) rfl (h.2.2.2.1) ?_
      refine wp_ifB_ne (pc' := 39) d_Re_isNextOf_4 (by decide) (fun h4 => absurd h4 hg) (fun h4 => ?_)
      refine wp_aload_n d_Re_isNextOf_7 rfl rfl ?_
      refine wp_getI d_Re_isNextOf_8 ow_Re_isNextOf fl_3_28 (O_65 _) rfl (h.2.1) ?_
      refine wp_aload_n d_Re_isNextOf_11 rfl rfl ?_
      refine wp_getI d_Re_isNextOf_12 ow_Re_isNextOf fl_3_25 (O_65 _) rfl (h.1.2.1) ?_
      refine wp_icN_ge (pc' := 39) d_Re_isNextOf_15 (by decide) (by omega) (by omega) (fun h15 => absurd h15 (by omega)) (fun h15 => ?_)
      refine wp_aload_n d_Re_isNextOf_18 rfl rfl ?_
      refine wp_aload_n d_Re_isNextOf_19 rfl rfl ?_
      refine wp_getR d_Re_isNextOf_20 ow_Re_isNextOf fl_3_38 (O_65 _) rfl ?_
      refine wp_aload_n d_Re_isNextOf_23 rfl rfl ?_
      refine wp_getI d_Re_isNextOf_24 ow_Re_isNextOf fl_3_28 (O_65 _) rfl (h.2.1) ?_
      refine wp_iaload d_Re_isNextOf_27 (A_10 _) (by omega) (by decide) ((h.1.2.2 k hk).trans eb) ?_
      refine wp_i2c d_Re_isNextOf_28 (i_c2 (by omega)) ?_
      refine wp_invV d_Re_isNextOf_29 ow_Re_isNextOf lk_3_86 (by decide) mi_Js_indexOf rfl rfl (Nat.le_of_ble_eq_true rfl) rfl rfl (show h_Js_indexOf ≤ _ from by decide) (c_ix6 hb ?_)
      refine wp_Ki ?_
      refine wp_if_lt (pc' := 39) d_Re_isNextOf_32 (by decide) (fun h32 => ?_) (fun h32 => ?_)
      · refine wp_iconst (x := nI 0) d_Re_isNextOf_39 rfl ?_
        refine wp_retz d_Re_isNextOf_40 rt_Re_isNextOf (by first | exact Or.inl rfl | exact Or.inr rfl) ?_
        exact K0 (fun y => absurd (hm.mpr y.2) (Int32.not_le.mpr h32))
      · refine wp_iconst (x := nI 1) d_Re_isNextOf_35 rfl ?_
        refine wp_goto (pc' := 40) d_Re_isNextOf_36 (by decide) ?_
        refine wp_retz d_Re_isNextOf_40 rt_Re_isNextOf (by first | exact Or.inl rfl | exact Or.inr rfl) ?_
        exact K1 ⟨hg1, hm.mp (Int32.not_lt.mp h32)⟩
    · have K0 := K0 (fun y => by rw [sp_by_ge hk] at y; exact absurd y.2 (by decide))
      refine cl_in ml_Re_isNextOf rfl rfl ?_
      refine wp_aload_n d_Re_isNextOf_0 rfl rfl ?_
      refine wp_getI d_Re_isNextOf_1 ow_Re_isNextOf fl_3_34 (O_65 _) rfl (h.2.2.2.1) ?_
      refine wp_ifB_ne (pc' := 39) d_Re_isNextOf_4 (by decide) (fun h4 => absurd h4 hg) (fun h4 => ?_)
      refine wp_aload_n d_Re_isNextOf_7 rfl rfl ?_
      refine wp_getI d_Re_isNextOf_8 ow_Re_isNextOf fl_3_28 (O_65 _) rfl (h.2.1) ?_
      refine wp_aload_n d_Re_isNextOf_11 rfl rfl ?_
      refine wp_getI d_Re_isNextOf_12 ow_Re_isNextOf fl_3_25 (O_65 _) rfl (h.1.2.1) ?_
      refine wp_icN_ge (pc' := 39) d_Re_isNextOf_15 (by decide) (by omega) (by omega) (fun h15 => ?_) (fun h15 => absurd h15 (by omega))
      refine wp_iconst (x := nI 0) d_Re_isNextOf_39 rfl ?_
      refine wp_retz d_Re_isNextOf_40 rt_Re_isNextOf (by first | exact Or.inl rfl | exact Or.inr rfl) ?_
      exact K0
theorem c_next7 (h : rS S u n tp k op g L) (hn : n ≤ 50) (hkn : k ≤ n) (hB : rB n tp) (K1 : g = true ∧ sp_by tp n k ∈ [38] → Q (some (.int (nI 1))) S) (K0 : ¬ (g = true ∧ sp_by tp n k ∈ [38]) → Q (some (.int (nI 0))) S) : cl h_Re_isNextOf y_Re_isNextOf [.ref 65, .ref 10007] S Q := by
  by_cases hg : g = false
  · have K0 := K0 (fun y => by rw [hg] at y; exact absurd y.1 (by decide))
    refine cl_in ml_Re_isNextOf rfl rfl ?_
    refine wp_aload_n d_Re_isNextOf_0 rfl rfl ?_
    refine wp_getI d_Re_isNextOf_1 ow_Re_isNextOf fl_3_34 (O_65 _) rfl (h.2.2.2.1) ?_
    refine wp_ifB_ne (pc' := 39) d_Re_isNextOf_4 (by decide) (fun h4 => ?_) (fun h4 => absurd hg h4)
    refine wp_iconst (x := nI 0) d_Re_isNextOf_39 rfl ?_
    refine wp_retz d_Re_isNextOf_40 rt_Re_isNextOf (by first | exact Or.inl rfl | exact Or.inr rfl) ?_
    exact K0
  · have hg1 : g = true := by cases g; exact absurd rfl hg; rfl
    by_cases hk : k < n
    · obtain ⟨b, hb, eb⟩ := hB k hk
      rw [sp_by_lt hk, eb] at K1 K0
      have hm : 0 ≤ sp_xo (nI b) [38] 1 0 ↔ nI b ∈ [38] := xo_in (T := [38]) (by decide)
      refine cl_in ml_Re_isNextOf rfl rfl ?_
      refine wp_aload_n d_Re_isNextOf_0 rfl rfl ?_
      refine wp_getI d_Re_isNextOf_1 ow_Re_isNextOf fl_3_34 (O_65 _) rfl (h.2.2.2.1) ?_
      refine wp_ifB_ne (pc' := 39) d_Re_isNextOf_4 (by decide) (fun h4 => absurd h4 hg) (fun h4 => ?_)
      refine wp_aload_n d_Re_isNextOf_7 rfl rfl ?_
      refine wp_getI d_Re_isNextOf_8 ow_Re_isNextOf fl_3_28 (O_65 _) rfl (h.2.1) ?_
      refine wp_aload_n d_Re_isNextOf_11 rfl rfl ?_
      refine wp_getI d_Re_isNextOf_12 ow_Re_isNextOf fl_3_25 (O_65 _) rfl (h.1.2.1) ?_
      refine wp_icN_ge (pc' := 39) d_Re_isNextOf_15 (by decide) (by omega) (by omega) (fun h15 => absurd h15 (by omega)) (fun h15 => ?_)
      refine wp_aload_n d_Re_isNextOf_18 rfl rfl ?_
      refine wp_aload_n d_Re_isNextOf_19 rfl rfl ?_
      refine wp_getR d_Re_isNextOf_20 ow_Re_isNextOf fl_3_38 (O_65 _) rfl ?_
      refine wp_aload_n d_Re_isNextOf_23 rfl rfl ?_
      refine wp_getI d_Re_isNextOf_24 ow_Re_isNextOf fl_3_28 (O_65 _) rfl (h.2.1) ?_
      refine wp_iaload d_Re_isNextOf_27 (A_10 _) (by omega) (by decide) ((h.1.2.2 k hk).trans eb) ?_
      refine wp_i2c d_Re_isNextOf_28 (i_c2 (by omega)) ?_
      refine wp_invV d_Re_isNextOf_29 ow_Re_isNextOf lk_3_86 (by decide) mi_Js_indexOf rfl rfl (Nat.le_of_ble_eq_true rfl) rfl rfl (show h_Js_indexOf ≤ _ from by decide) (c_ix7 hb ?_)
      refine wp_Ki ?_
      refine wp_if_lt (pc' := 39) d_Re_isNextOf_32 (by decide) (fun h32 => ?_) (fun h32 => ?_)
      · refine wp_iconst (x := nI 0) d_Re_isNextOf_39 rfl ?_
        refine wp_retz d_Re_isNextOf_40 rt_Re_isNextOf (by first | exact Or.inl rfl | exact Or.inr rfl) ?_
        exact K0 (fun y => absurd (hm.mpr y.2) (Int32.not_le.mpr h32))
      · refine wp_iconst (x := nI 1) d_Re_isNextOf_35 rfl ?_
        refine wp_goto (pc' := 40) d_Re_isNextOf_36 (by decide) ?_
        refine wp_retz d_Re_isNextOf_40 rt_Re_isNextOf (by first | exact Or.inl rfl | exact Or.inr rfl) ?_
        exact K1 ⟨hg1, hm.mp (Int32.not_lt.mp h32)⟩
    · have K0 := K0 (fun y => by rw [sp_by_ge hk] at y; exact absurd y.2 (by decide))
      refine cl_in ml_Re_isNextOf rfl rfl ?_
      refine wp_aload_n d_Re_isNextOf_0 rfl rfl ?_
      refine wp_getI d_Re_isNextOf_1 ow_Re_isNextOf fl_3_34 (O_65 _) rfl (h.2.2.2.1) ?_
      refine wp_ifB_ne (pc' := 39) d_Re_isNextOf_4 (by decide) (fun h4 => absurd h4 hg) (fun h4 => ?_)
      refine wp_aload_n d_Re_isNextOf_7 rfl rfl ?_
      refine wp_getI d_Re_isNextOf_8 ow_Re_isNextOf fl_3_28 (O_65 _) rfl (h.2.1) ?_
      refine wp_aload_n d_Re_isNextOf_11 rfl rfl ?_
      refine wp_getI d_Re_isNextOf_12 ow_Re_isNextOf fl_3_25 (O_65 _) rfl (h.1.2.1) ?_
      refine wp_icN_ge (pc' := 39) d_Re_isNextOf_15 (by decide) (by omega) (by omega) (fun h15 => ?_) (fun h15 => absurd h15 (by omega))
      refine wp_iconst (x := nI 0) d_Re_isNextOf_39 rfl ?_
      refine wp_retz d_Re_isNextOf_40 rt_Re_isNextOf (by first | exact Or.inl rfl | exact Or.inr rfl) ?_
      exact K0
theorem c_next8 (h : rS S u n tp k op g L) (hn : n ≤ 50) (hkn : k ≤ n) (hB : rB n tp) (K1 : g = true ∧ sp_by tp n k ∈ [60, 61, 62] → Q (some (.int (nI 1))) S) (K0 : ¬ (g = true ∧ sp_by tp n k ∈ [60, 61, 62]) → Q (some (.int (nI 0))) S) : cl h_Re_isNextOf y_Re_isNextOf [.ref 65, .ref 10008] S Q := by
  by_cases hg : g = false
  · have K0 := K0 (fun y => by rw [hg] at y; exact absurd y.1 (by decide))
    refine cl_in ml_Re_isNextOf rfl rfl ?_
    refine wp_aload_n d_Re_isNextOf_0 rfl rfl ?_
    refine wp_getI d_Re_isNextOf_1 ow_Re_isNextOf fl_3_34 (O_65 _) rfl (h.2.2.2.1) ?_
    refine wp_ifB_ne (pc' := 39) d_Re_isNextOf_4 (by decide) (fun h4 => ?_) (fun h4 => absurd hg h4)
    refine wp_iconst (x := nI 0) d_Re_isNextOf_39 rfl ?_
    refine wp_retz d_Re_isNextOf_40 rt_Re_isNextOf (by first | exact Or.inl rfl | exact Or.inr rfl) ?_
    exact K0
  · have hg1 : g = true := by cases g; exact absurd rfl hg; rfl
    by_cases hk : k < n
    · obtain ⟨b, hb, eb⟩ := hB k hk
      rw [sp_by_lt hk, eb] at K1 K0
      have hm : 0 ≤ sp_xo (nI b) [60, 61, 62] 3 0 ↔ nI b ∈ [60, 61, 62] := xo_in (T := [60, 61, 62]) (by decide)
      refine cl_in ml_Re_isNextOf rfl rfl ?_
      refine wp_aload_n d_Re_isNextOf_0 rfl rfl ?_
      refine wp_getI d_Re_isNextOf_1 ow_Re_isNextOf fl_3_34 (O_65 _) rfl (h.2.2.2.1) ?_
      refine wp_ifB_ne (pc' := 39) d_Re_isNextOf_4 (by decide) (fun h4 => absurd h4 hg) (fun h4 => ?_)
      refine wp_aload_n d_Re_isNextOf_7 rfl rfl ?_
      refine wp_getI d_Re_isNextOf_8 ow_Re_isNextOf fl_3_28 (O_65 _) rfl (h.2.1) ?_
      refine wp_aload_n d_Re_isNextOf_11 rfl rfl ?_
      refine wp_getI d_Re_isNextOf_12 ow_Re_isNextOf fl_3_25 (O_65 _) rfl (h.1.2.1) ?_
      refine wp_icN_ge (pc' := 39) d_Re_isNextOf_15 (by decide) (by omega) (by omega) (fun h15 => absurd h15 (by omega)) (fun h15 => ?_)
      refine wp_aload_n d_Re_isNextOf_18 rfl rfl ?_
      refine wp_aload_n d_Re_isNextOf_19 rfl rfl ?_
      refine wp_getR d_Re_isNextOf_20 ow_Re_isNextOf fl_3_38 (O_65 _) rfl ?_
      refine wp_aload_n d_Re_isNextOf_23 rfl rfl ?_
      refine wp_getI d_Re_isNextOf_24 ow_Re_isNextOf fl_3_28 (O_65 _) rfl (h.2.1) ?_
      refine wp_iaload d_Re_isNextOf_27 (A_10 _) (by omega) (by decide) ((h.1.2.2 k hk).trans eb) ?_
      refine wp_i2c d_Re_isNextOf_28 (i_c2 (by omega)) ?_
      refine wp_invV d_Re_isNextOf_29 ow_Re_isNextOf lk_3_86 (by decide) mi_Js_indexOf rfl rfl (Nat.le_of_ble_eq_true rfl) rfl rfl (show h_Js_indexOf ≤ _ from by decide) (c_ix8 hb ?_)
      refine wp_Ki ?_
      refine wp_if_lt (pc' := 39) d_Re_isNextOf_32 (by decide) (fun h32 => ?_) (fun h32 => ?_)
      · refine wp_iconst (x := nI 0) d_Re_isNextOf_39 rfl ?_
        refine wp_retz d_Re_isNextOf_40 rt_Re_isNextOf (by first | exact Or.inl rfl | exact Or.inr rfl) ?_
        exact K0 (fun y => absurd (hm.mpr y.2) (Int32.not_le.mpr h32))
      · refine wp_iconst (x := nI 1) d_Re_isNextOf_35 rfl ?_
        refine wp_goto (pc' := 40) d_Re_isNextOf_36 (by decide) ?_
        refine wp_retz d_Re_isNextOf_40 rt_Re_isNextOf (by first | exact Or.inl rfl | exact Or.inr rfl) ?_
        exact K1 ⟨hg1, hm.mp (Int32.not_lt.mp h32)⟩
    · have K0 := K0 (fun y => by rw [sp_by_ge hk] at y; exact absurd y.2 (by decide))
      refine cl_in ml_Re_isNextOf rfl rfl ?_
      refine wp_aload_n d_Re_isNextOf_0 rfl rfl ?_
      refine wp_getI d_Re_isNextOf_1 ow_Re_isNextOf fl_3_34 (O_65 _) rfl (h.2.2.2.1) ?_
      refine wp_ifB_ne (pc' := 39) d_Re_isNextOf_4 (by decide) (fun h4 => absurd h4 hg) (fun h4 => ?_)
      refine wp_aload_n d_Re_isNextOf_7 rfl rfl ?_
      refine wp_getI d_Re_isNextOf_8 ow_Re_isNextOf fl_3_28 (O_65 _) rfl (h.2.1) ?_
      refine wp_aload_n d_Re_isNextOf_11 rfl rfl ?_
      refine wp_getI d_Re_isNextOf_12 ow_Re_isNextOf fl_3_25 (O_65 _) rfl (h.1.2.1) ?_
      refine wp_icN_ge (pc' := 39) d_Re_isNextOf_15 (by decide) (by omega) (by omega) (fun h15 => ?_) (fun h15 => absurd h15 (by omega))
      refine wp_iconst (x := nI 0) d_Re_isNextOf_39 rfl ?_
      refine wp_retz d_Re_isNextOf_40 rt_Re_isNextOf (by first | exact Or.inl rfl | exact Or.inr rfl) ?_
      exact K0
theorem c_next9 (h : rS S u n tp k op g L) (hn : n ≤ 50) (hkn : k ≤ n) (hB : rB n tp) (K1 : g = true ∧ sp_by tp n k ∈ [43, 45] → Q (some (.int (nI 1))) S) (K0 : ¬ (g = true ∧ sp_by tp n k ∈ [43, 45]) → Q (some (.int (nI 0))) S) : cl h_Re_isNextOf y_Re_isNextOf [.ref 65, .ref 10009] S Q := by
  by_cases hg : g = false
  · have K0 := K0 (fun y => by rw [hg] at y; exact absurd y.1 (by decide))
    refine cl_in ml_Re_isNextOf rfl rfl ?_
    refine wp_aload_n d_Re_isNextOf_0 rfl rfl ?_
    refine wp_getI d_Re_isNextOf_1 ow_Re_isNextOf fl_3_34 (O_65 _) rfl (h.2.2.2.1) ?_
    refine wp_ifB_ne (pc' := 39) d_Re_isNextOf_4 (by decide) (fun h4 => ?_) (fun h4 => absurd hg h4)
    refine wp_iconst (x := nI 0) d_Re_isNextOf_39 rfl ?_
    refine wp_retz d_Re_isNextOf_40 rt_Re_isNextOf (by first | exact Or.inl rfl | exact Or.inr rfl) ?_
    exact K0
  · have hg1 : g = true := by cases g; exact absurd rfl hg; rfl
    by_cases hk : k < n
    · obtain ⟨b, hb, eb⟩ := hB k hk
      rw [sp_by_lt hk, eb] at K1 K0
      have hm : 0 ≤ sp_xo (nI b) [43, 45] 2 0 ↔ nI b ∈ [43, 45] := xo_in (T := [43, 45]) (by decide)
      refine cl_in ml_Re_isNextOf rfl rfl ?_
      refine wp_aload_n d_Re_isNextOf_0 rfl rfl ?_
      refine wp_getI d_Re_isNextOf_1 ow_Re_isNextOf fl_3_34 (O_65 _) rfl (h.2.2.2.1) ?_
      refine wp_ifB_ne (pc' := 39) d_Re_isNextOf_4 (by decide) (fun h4 => absurd h4 hg) (fun h4 => ?_)
      refine wp_aload_n d_Re_isNextOf_7 rfl rfl ?_
      refine wp_getI d_Re_isNextOf_8 ow_Re_isNextOf fl_3_28 (O_65 _) rfl (h.2.1) ?_
      refine wp_aload_n d_Re_isNextOf_11 rfl rfl ?_
      refine wp_getI d_Re_isNextOf_12 ow_Re_isNextOf fl_3_25 (O_65 _) rfl (h.1.2.1) ?_
      refine wp_icN_ge (pc' := 39) d_Re_isNextOf_15 (by decide) (by omega) (by omega) (fun h15 => absurd h15 (by omega)) (fun h15 => ?_)
      refine wp_aload_n d_Re_isNextOf_18 rfl rfl ?_
      refine wp_aload_n d_Re_isNextOf_19 rfl rfl ?_
      refine wp_getR d_Re_isNextOf_20 ow_Re_isNextOf fl_3_38 (O_65 _) rfl ?_
      refine wp_aload_n d_Re_isNextOf_23 rfl rfl ?_
      refine wp_getI d_Re_isNextOf_24 ow_Re_isNextOf fl_3_28 (O_65 _) rfl (h.2.1) ?_
      refine wp_iaload d_Re_isNextOf_27 (A_10 _) (by omega) (by decide) ((h.1.2.2 k hk).trans eb) ?_
      refine wp_i2c d_Re_isNextOf_28 (i_c2 (by omega)) ?_
      refine wp_invV d_Re_isNextOf_29 ow_Re_isNextOf lk_3_86 (by decide) mi_Js_indexOf rfl rfl (Nat.le_of_ble_eq_true rfl) rfl rfl (show h_Js_indexOf ≤ _ from by decide) (c_ix9 hb ?_)
      refine wp_Ki ?_
      refine wp_if_lt (pc' := 39) d_Re_isNextOf_32 (by decide) (fun h32 => ?_) (fun h32 => ?_)
      · refine wp_iconst (x := nI 0) d_Re_isNextOf_39 rfl ?_
        refine wp_retz d_Re_isNextOf_40 rt_Re_isNextOf (by first | exact Or.inl rfl | exact Or.inr rfl) ?_
        exact K0 (fun y => absurd (hm.mpr y.2) (Int32.not_le.mpr h32))
      · refine wp_iconst (x := nI 1) d_Re_isNextOf_35 rfl ?_
        refine wp_goto (pc' := 40) d_Re_isNextOf_36 (by decide) ?_
        refine wp_retz d_Re_isNextOf_40 rt_Re_isNextOf (by first | exact Or.inl rfl | exact Or.inr rfl) ?_
        exact K1 ⟨hg1, hm.mp (Int32.not_lt.mp h32)⟩
    · have K0 := K0 (fun y => by rw [sp_by_ge hk] at y; exact absurd y.2 (by decide))
      refine cl_in ml_Re_isNextOf rfl rfl ?_
      refine wp_aload_n d_Re_isNextOf_0 rfl rfl ?_
      refine wp_getI d_Re_isNextOf_1 ow_Re_isNextOf fl_3_34 (O_65 _) rfl (h.2.2.2.1) ?_
      refine wp_ifB_ne (pc' := 39) d_Re_isNextOf_4 (by decide) (fun h4 => absurd h4 hg) (fun h4 => ?_)
      refine wp_aload_n d_Re_isNextOf_7 rfl rfl ?_
      refine wp_getI d_Re_isNextOf_8 ow_Re_isNextOf fl_3_28 (O_65 _) rfl (h.2.1) ?_
      refine wp_aload_n d_Re_isNextOf_11 rfl rfl ?_
      refine wp_getI d_Re_isNextOf_12 ow_Re_isNextOf fl_3_25 (O_65 _) rfl (h.1.2.1) ?_
      refine wp_icN_ge (pc' := 39) d_Re_isNextOf_15 (by decide) (by omega) (by omega) (fun h15 => ?_) (fun h15 => absurd h15 (by omega))
      refine wp_iconst (x := nI 0) d_Re_isNextOf_39 rfl ?_
      refine wp_retz d_Re_isNextOf_40 rt_Re_isNextOf (by first | exact Or.inl rfl | exact Or.inr rfl) ?_
      exact K0
theorem c_next10 (h : rS S u n tp k op g L) (hn : n ≤ 50) (hkn : k ≤ n) (hB : rB n tp) (K1 : g = true ∧ sp_by tp n k ∈ [42, 47, 37] → Q (some (.int (nI 1))) S) (K0 : ¬ (g = true ∧ sp_by tp n k ∈ [42, 47, 37]) → Q (some (.int (nI 0))) S) : cl h_Re_isNextOf y_Re_isNextOf [.ref 65, .ref 10010] S Q := by
  by_cases hg : g = false
  · have K0 := K0 (fun y => by rw [hg] at y; exact absurd y.1 (by decide))
    refine cl_in ml_Re_isNextOf rfl rfl ?_
    refine wp_aload_n d_Re_isNextOf_0 rfl rfl ?_
    refine wp_getI d_Re_isNextOf_1 ow_Re_isNextOf fl_3_34 (O_65 _) rfl (h.2.2.2.1) ?_
    refine wp_ifB_ne (pc' := 39) d_Re_isNextOf_4 (by decide) (fun h4 => ?_) (fun h4 => absurd hg h4)
    refine wp_iconst (x := nI 0) d_Re_isNextOf_39 rfl ?_
    refine wp_retz d_Re_isNextOf_40 rt_Re_isNextOf (by first | exact Or.inl rfl | exact Or.inr rfl) ?_
    exact K0
  · have hg1 : g = true := by cases g; exact absurd rfl hg; rfl
    by_cases hk : k < n
    · obtain ⟨b, hb, eb⟩ := hB k hk
      rw [sp_by_lt hk, eb] at K1 K0
      have hm : 0 ≤ sp_xo (nI b) [42, 47, 37] 3 0 ↔ nI b ∈ [42, 47, 37] := xo_in (T := [42, 47, 37]) (by decide)
      refine cl_in ml_Re_isNextOf rfl rfl ?_
      refine wp_aload_n d_Re_isNextOf_0 rfl rfl ?_
      refine wp_getI d_Re_isNextOf_1 ow_Re_isNextOf fl_3_34 (O_65 _) rfl (h.2.2.2.1) ?_
      refine wp_ifB_ne (pc' := 39) d_Re_isNextOf_4 (by decide) (fun h4 => absurd h4 hg) (fun h4 => ?_)
      refine wp_aload_n d_Re_isNextOf_7 rfl rfl ?_
      refine wp_getI d_Re_isNextOf_8 ow_Re_isNextOf fl_3_28 (O_65 _) rfl (h.2.1) ?_
      refine wp_aload_n d_Re_isNextOf_11 rfl rfl ?_
      refine wp_getI d_Re_isNextOf_12 ow_Re_isNextOf fl_3_25 (O_65 _) rfl (h.1.2.1) ?_
      refine wp_icN_ge (pc' := 39) d_Re_isNextOf_15 (by decide) (by omega) (by omega) (fun h15 => absurd h15 (by omega)) (fun h15 => ?_)
      refine wp_aload_n d_Re_isNextOf_18 rfl rfl ?_
      refine wp_aload_n d_Re_isNextOf_19 rfl rfl ?_
      refine wp_getR d_Re_isNextOf_20 ow_Re_isNextOf fl_3_38 (O_65 _) rfl ?_
      refine wp_aload_n d_Re_isNextOf_23 rfl rfl ?_
      refine wp_getI d_Re_isNextOf_24 ow_Re_isNextOf fl_3_28 (O_65 _) rfl (h.2.1) ?_
      refine wp_iaload d_Re_isNextOf_27 (A_10 _) (by omega) (by decide) ((h.1.2.2 k hk).trans eb) ?_
      refine wp_i2c d_Re_isNextOf_28 (i_c2 (by omega)) ?_
      refine wp_invV d_Re_isNextOf_29 ow_Re_isNextOf lk_3_86 (by decide) mi_Js_indexOf rfl rfl (Nat.le_of_ble_eq_true rfl) rfl rfl (show h_Js_indexOf ≤ _ from by decide) (c_ix10 hb ?_)
      refine wp_Ki ?_
      refine wp_if_lt (pc' := 39) d_Re_isNextOf_32 (by decide) (fun h32 => ?_) (fun h32 => ?_)
      · refine wp_iconst (x := nI 0) d_Re_isNextOf_39 rfl ?_
        refine wp_retz d_Re_isNextOf_40 rt_Re_isNextOf (by first | exact Or.inl rfl | exact Or.inr rfl) ?_
        exact K0 (fun y => absurd (hm.mpr y.2) (Int32.not_le.mpr h32))
      · refine wp_iconst (x := nI 1) d_Re_isNextOf_35 rfl ?_
        refine wp_goto (pc' := 40) d_Re_isNextOf_36 (by decide) ?_
        refine wp_retz d_Re_isNextOf_40 rt_Re_isNextOf (by first | exact Or.inl rfl | exact Or.inr rfl) ?_
        exact K1 ⟨hg1, hm.mp (Int32.not_lt.mp h32)⟩
    · have K0 := K0 (fun y => by rw [sp_by_ge hk] at y; exact absurd y.2 (by decide))
      refine cl_in ml_Re_isNextOf rfl rfl ?_
      refine wp_aload_n d_Re_isNextOf_0 rfl rfl ?_
      refine wp_getI d_Re_isNextOf_1 ow_Re_isNextOf fl_3_34 (O_65 _) rfl (h.2.2.2.1) ?_
      refine wp_ifB_ne (pc' := 39) d_Re_isNextOf_4 (by decide) (fun h4 => absurd h4 hg) (fun h4 => ?_)
      refine wp_aload_n d_Re_isNextOf_7 rfl rfl ?_
      refine wp_getI d_Re_isNextOf_8 ow_Re_isNextOf fl_3_28 (O_65 _) rfl (h.2.1) ?_
      refine wp_aload_n d_Re_isNextOf_11 rfl rfl ?_
      refine wp_getI d_Re_isNextOf_12 ow_Re_isNextOf fl_3_25 (O_65 _) rfl (h.1.2.1) ?_
      refine wp_icN_ge (pc' := 39) d_Re_isNextOf_15 (by decide) (by omega) (by omega) (fun h15 => ?_) (fun h15 => absurd h15 (by omega))
      refine wp_iconst (x := nI 0) d_Re_isNextOf_39 rfl ?_
      refine wp_retz d_Re_isNextOf_40 rt_Re_isNextOf (by first | exact Or.inl rfl | exact Or.inr rfl) ?_
      exact K0
theorem dg_in {x : Int32} : x ∈ ([48, 49, 50, 51, 52, 53, 54, 55, 56, 57] : List Int32) ↔ sp_dg x = true := by
  constructor
  · intro h
    simp only [List.mem_cons, List.not_mem_nil, or_false] at h
    rcases h with rfl | rfl | rfl | rfl | rfl | rfl | rfl | rfl | rfl | rfl <;> decide
  · intro h
    obtain ⟨j, hj, rfl⟩ := sp_dg_of h
    rcases (show j = 0 ∨ j = 1 ∨ j = 2 ∨ j = 3 ∨ j = 4 ∨ j = 5 ∨ j = 6 ∨ j = 7 ∨ j = 8 ∨ j = 9 by omega) with rfl | rfl | rfl | rfl | rfl | rfl | rfl | rfl | rfl | rfl <;> decide
theorem op_in0 {x : Int32} : x ∈ ([124] : List Int32) ↔ sp_op 0 x = true := by
  rw [List.mem_singleton]
  exact decide_eq_true_iff.symm
theorem op_in1 {x : Int32} : x ∈ ([38] : List Int32) ↔ sp_op 1 x = true := by
  rw [List.mem_singleton]
  exact decide_eq_true_iff.symm
theorem op_in2 {x : Int32} : x ∈ ([60, 61, 62] : List Int32) ↔ sp_op 2 x = true := by
  simp only [List.mem_cons, List.not_mem_nil, or_false]
  exact decide_eq_true_iff.symm
theorem op_in3 {x : Int32} : x ∈ ([43, 45] : List Int32) ↔ sp_op 3 x = true := by
  simp only [List.mem_cons, List.not_mem_nil, or_false]
  exact decide_eq_true_iff.symm
theorem op_in4 {x : Int32} : x ∈ ([42, 47, 37] : List Int32) ↔ sp_op 4 x = true := by
  simp only [List.mem_cons, List.not_mem_nil, or_false]
  exact decide_eq_true_iff.symm
theorem sp_nu_ps (by_ : Nat → Int32) : ∀ f k v, k ≤ (sp_nu by_ f k v).1
  | 0, _, _ => by rw [sp_nu]; exact Nat.le_refl _
  | f + 1, k, v => by
    rw [sp_nu]
    split
    · exact Nat.le_trans (Nat.le_succ k) (sp_nu_ps by_ f (k + 1) _)
    · exact Nat.le_refl _
theorem dg_lt {k : Nat} (h : sp_dg (sp_by tp n k) = true) : k < n := by
  by_cases g : k < n
  · exact g
  · rw [sp_by_ge g] at h
    exact absurd h (by decide)
theorem c_nu_loop (hn : n ≤ 50) (hB : rB n tp) (hl : L.length < 50) (r : Nat × Int32) (K : ∀ S', rS S' u n tp r.1 op true (L ++ [r.2]) → fr rD S S' → Q none S') : ∀ f k j v (S' : wp_S), j + f = 4 → k ≤ n → sp_nu (sp_by tp n) f k v = r → rS S' u n tp k op true L → fr rD S S' → wp (h_Re_readNumber - 1) y_Re_readNumber 4 [some (.ref 65), some (.int v), some (.int (nI j))] [] S' Q := by
  have K37 : ∀ S' j v k, (k, v) = r → rS S' u n tp k op true L → fr rD S S' → wp (h_Re_readNumber - 1) y_Re_readNumber 37 [some (.ref 65), some (.int v), some (.int (nI j))] [] S' Q := by
    intro S' j v k e h f
    subst e
    refine wp_aload_n d_Re_readNumber_37 rfl rfl ?_
    refine wp_iload_n d_Re_readNumber_38 rfl rfl ?_
    refine wp_invV d_Re_readNumber_39 ow_Re_readNumber lk_3_68 (by decide) mi_Re_emit rfl rfl (Nat.le_of_ble_eq_true rfl) rfl (wp_isC (O_65 _)) (show h_Re_emit ≤ _ from by decide) (c_emit h hl v ?_)
    refine wp_Kv ?_
    refine wp_return d_Re_readNumber_42 rt_Re_readNumber ?_
    exact K _ (rS_em h v) ((f.up (Or.inr rfl)).up (Or.inl rfl))
  intro f
  induction f with
  | zero =>
    intro k j v S' hj hkn e h fS
    obtain rfl : j = 4 := by omega
    have e : (k, v) = r := by rw [sp_nu] at e; exact e
    refine wp_iload_n d_Re_readNumber_4 rfl rfl ?_
    refine wp_iconst (x := nI 4) d_Re_readNumber_5 rfl ?_
    refine wp_icN_ge (pc' := 37) d_Re_readNumber_6 (by decide) (by omega) (by omega) (fun _ => ?_) (fun q => absurd q (by decide))
    exact K37 S' 4 v k e h fS
  | succ f ih =>
    intro k j v S' hj hkn e h fS
    rw [sp_nu] at e
    refine wp_iload_n d_Re_readNumber_4 rfl rfl ?_
    refine wp_iconst (x := nI 4) d_Re_readNumber_5 rfl ?_
    refine wp_icN_ge (pc' := 37) d_Re_readNumber_6 (by decide) (by omega) (by omega) (fun h6 => absurd h6 (by omega)) (fun h6 => ?_)
    refine wp_aload_n d_Re_readNumber_9 rfl rfl ?_
    refine wp_ldc (v := .ref 10003) d_Re_readNumber_10 ow_Re_readNumber (by decide +kernel) ?_
    refine wp_invV d_Re_readNumber_12 ow_Re_readNumber lk_3_58 (by decide) mi_Re_isNextOf rfl rfl (Nat.le_of_ble_eq_true rfl) rfl (wp_isC (O_65 _)) (show h_Re_isNextOf ≤ _ from by decide) (c_next3 h hn hkn hB (fun y => ?_) (fun y => ?_))
    · refine wp_Ki ?_
      have y2 := dg_in.mp y.2
      have hk := dg_lt y2
      rw [if_pos y2] at e
      have ev : v * nI 10 + tp k - nI 48 = nI 10 * v + sp_by tp n k - nI 48 := by rw [sp_by_lt hk, Int32.mul_comm]
      refine wp_ifN_eq (pc' := 37) d_Re_readNumber_15 (by decide) (by omega) (fun q => absurd q (by decide)) (fun _ => ?_)
      refine wp_iload_n d_Re_readNumber_18 rfl rfl ?_
      refine wp_bipush (x := nI 10) d_Re_readNumber_19 (by decide) ?_
      refine wp_imul d_Re_readNumber_21 rfl ?_
      refine wp_aload_n d_Re_readNumber_22 rfl rfl ?_
      refine wp_invV d_Re_readNumber_23 ow_Re_readNumber lk_3_62 (by decide) mi_Re_take rfl rfl (Nat.le_of_ble_eq_true rfl) rfl (wp_isC (O_65 _)) (show h_Re_take ≤ _ from by decide) (c_take h hn hk ?_)
      refine wp_Ki ?_
      refine wp_iadd d_Re_readNumber_26 rfl ?_
      refine wp_bipush (x := nI 48) d_Re_readNumber_27 (by decide) ?_
      refine wp_isub d_Re_readNumber_29 (ev) ?_
      refine wp_iston1 d_Re_readNumber_30 rfl ?_
      refine wp_iinc2 d_Re_readNumber_31 rfl (nI_add _ 1) ?_
      refine wp_goto (pc' := 4) d_Re_readNumber_34 (by decide) ?_
      exact ih (k + 1) (j + 1) _ _ (by omega) (by omega) e (rS_at h (k + 1)) (rD_u fS)
    · refine wp_Ki ?_
      rw [if_neg (fun g => y ⟨rfl, dg_in.mpr g⟩)] at e
      refine wp_ifN_eq (pc' := 37) d_Re_readNumber_15 (by decide) (by omega) (fun _ => ?_) (fun q => absurd q (by decide))
      exact K37 S' j v k e h fS
theorem c_readNumber (h : rS S u n tp k op true L) (hn : n ≤ 50) (hB : rB n tp) (hkn : k ≤ n) (hl : L.length < 50) (K : ∀ S', rS S' u n tp (sp_nu (sp_by tp n) 4 k 0).1 op true (L ++ [(sp_nu (sp_by tp n) 4 k 0).2]) → fr rD S S' → Q none S') : cl h_Re_readNumber y_Re_readNumber [.ref 65] S Q := by
  refine cl_in ml_Re_readNumber rfl rfl ?_
  refine wp_iconst (x := nI 0) d_Re_readNumber_0 rfl ?_
  refine wp_iston1 d_Re_readNumber_1 rfl ?_
  refine wp_iconst (x := nI 0) d_Re_readNumber_2 rfl ?_
  refine wp_iston2 d_Re_readNumber_3 rfl ?_
  exact c_nu_loop (S := S) hn hB hl _ K 4 k 0 0 S rfl hkn rfl h fr.rf
end CY
