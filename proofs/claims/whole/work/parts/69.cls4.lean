/-! the class: what its calls come to; fields begun, copied, made to forget -/
def wp_fl (S : wp_S) (w n : Nat) (x : Int32) : wp_S := (S.1, fun k j => if k = w ∧ j < n then x else S.2 k j)
theorem wp_fl_0 (S : wp_S) (w : Nat) (x : Int32) : wp_fl S w 0 x = S := Prod.ext rfl (funext fun k => funext fun j => if_neg (by omega))
theorem wp_fl_s (S : wp_S) (w n : Nat) (x : Int32) : wp_u (wp_fl S w n x) w n x = wp_fl S w (n + 1) x := by
  refine Prod.ext rfl (funext fun k => funext fun j => ?_)
  rw [wp_u2]
  show (if k = w ∧ j = n then x else if k = w ∧ j < n then x else S.2 k j) = if k = w ∧ j < n + 1 then x else S.2 k j
  by_cases h : k = w ∧ j < n + 1
  · rw [if_pos h]
    by_cases h2 : k = w ∧ j = n
    · rw [if_pos h2]
    · rw [if_neg h2, if_pos (by omega)]
  · rw [if_neg h, if_neg (by omega), if_neg (by omega)]
theorem wp_fl_4 (S : wp_S) (w : Nat) (x : Int32) : wp_fl S w 4 x = wp_u (wp_u (wp_u (wp_u S w 0 x) w 1 x) w 2 x) w 3 x := by
  rw [← wp_fl_s, ← wp_fl_s, ← wp_fl_s, ← wp_fl_s, wp_fl_0]
/-- a field copied -/
def fcp (S : wp_S) (a ta b tb : Nat) : wp_S := (S.1, fun k j => if k = a ∧ 2 ≤ j ∧ j ≤ 7 then S.2 b j else if k = ta ∧ j < 4 then S.2 tb j else S.2 k j)
theorem fcp_e (S : wp_S) {a ta b tb : Nat} (h1 : a ≠ ta) (h2 : a ≠ b) (h3 : a ≠ tb) : wp_cp (wp_u (wp_u (wp_u (wp_u (wp_u (wp_u S a 2 (S.2 b 2)) a 3 (S.2 b 3)) a 4 (S.2 b 4)) a 5 (S.2 b 5)) a 6 (S.2 b 6)) a 7 (S.2 b 7)) tb ta 0 0 4 = fcp S a ta b tb := by
  refine Prod.ext rfl (funext fun k => funext fun j => ?_)
  rw [wp_cp2]
  show _ = if k = a ∧ 2 ≤ j ∧ j ≤ 7 then S.2 b j else if k = ta ∧ j < 4 then S.2 tb j else S.2 k j
  simp only [wp_u2]
  by_cases hk : k = a
  · subst hk
    rw [if_neg (show ¬ (k = ta ∧ 0 ≤ j ∧ j < 0 + 4) from fun z => h1 z.1)]
    by_cases hj : 2 ≤ j ∧ j ≤ 7
    · rcases (show j = 2 ∨ j = 3 ∨ j = 4 ∨ j = 5 ∨ j = 6 ∨ j = 7 by omega) with rfl | rfl | rfl | rfl | rfl | rfl <;> simp
    · rw [if_neg (show ¬ (k = k ∧ j = 7) by omega), if_neg (show ¬ (k = k ∧ j = 6) by omega), if_neg (show ¬ (k = k ∧ j = 5) by omega), if_neg (show ¬ (k = k ∧ j = 4) by omega), if_neg (show ¬ (k = k ∧ j = 3) by omega), if_neg (show ¬ (k = k ∧ j = 2) by omega), if_neg (show ¬ (k = k ∧ 2 ≤ j ∧ j ≤ 7) by omega), if_neg (show ¬ (k = ta ∧ j < 4) from fun z => h1 z.1)]
  · rw [if_neg (show ¬ (k = a ∧ 2 ≤ j ∧ j ≤ 7) from fun z => hk z.1)]
    by_cases ht : k = ta ∧ j < 4
    · rw [if_pos (show k = ta ∧ 0 ≤ j ∧ j < 0 + 4 by omega), if_pos ht, if_neg (fun z => h3 z.1.symm), if_neg (fun z => h3 z.1.symm), if_neg (fun z => h3 z.1.symm), if_neg (fun z => h3 z.1.symm), if_neg (fun z => h3 z.1.symm), if_neg (fun z => h3 z.1.symm), show 0 + (j - 0) = j by omega]
    · rw [if_neg (show ¬ (k = ta ∧ 0 ≤ j ∧ j < 0 + 4) by omega), if_neg ht, if_neg (fun z => hk z.1), if_neg (fun z => hk z.1), if_neg (fun z => hk z.1), if_neg (fun z => hk z.1), if_neg (fun z => hk z.1), if_neg (fun z => hk z.1)]
/-- room of the class's calls: errors, sheets, voices, images aside -/
def cY (k _j : Nat) : Prop := (1 ≤ k ∧ k ≤ 32) ∨ (65 ≤ k ∧ k ≤ 78)
theorem fr_YL {S S' : wp_S} (f : fr cLd S S') : fr cY S S' := f.mono (fun _ _ z => Or.inl z)
def cX (k j : Nat) : Prop := cY k j ∨ k = 90
def cQ (S : wp_S) (o : sp_Out) (Q : Option Value → wp_S → Prop) : Prop := ∀ S', CL S' o.2.2 → S'.2 90 = sp_er (S.2 90) o.1 → (∀ k j, ¬ cX k j → S'.2 k j = S.2 k j) → Q (some (.int o.2.1)) S'
section CD
variable {S : wp_S} {q : sp_R} {mu : Int32} {Q : Option Value → wp_S → Prop}
theorem cQ_ok {S1 : wp_S} {q' : sp_R} {a : Int32} (K : cQ S (0, a, q') Q) (C : CL S1 q') (f : fr cY S S1) : Q (some (.int a)) S1 :=
  K S1 C (f.row (fun j z => by
    unfold cY at z
    omega)) (fun k j h => f.2 k j (fun z => h (Or.inl z)))
theorem CL_90 {j : Nat} {x : Int32} (C : CL S q) : CL (wp_u S 90 j x) q := C.fr (fun k i h => wp_un (fun z => h (by unfold cW; omega)))
theorem cQ_er {S1 : wp_S} {q' : sp_R} {e : Nat} (K : cQ S (sp_bad q' e) Q) (he : e ≠ 0) (C : CL S1 q') (f : fr cY S S1) : Q (some (.int (-1000000000 - nI e))) (wp_u S1 90 e (S1.2 90 e + nI 1)) := by
  have h90 : S1.2 90 = S.2 90 := f.row (fun j z => by
    unfold cY at z
    omega)
  refine K _ (CL_90 C) ?_ (fun k j h => ?_)
  · show _ = sp_er (S.2 90) e
    unfold sp_er
    rw [if_neg he, ← h90]
    refine funext fun j => ?_
    rw [wp_u2]
    unfold sp_up
    by_cases hj : j = e
    · rw [if_pos ⟨rfl, hj⟩, if_pos hj]
    · rw [if_neg (fun z => hj z.2), if_neg hj]
  · exact (wp_un (fun z => h (Or.inr z.1))).trans (f.2 k j (fun z => h (Or.inl z)))
theorem c_fill {w n : Nat} (hA : ∀ S, wp_A S w n) (hn : n < 2 ^ 30) (x : Int32) (K : Q none (wp_fl S w n x)) : cl h_Ja_fill y_Ja_fill [.ref w, .int x] S Q := by
  have loop : ∀ m k, k + m = n → wp (h_Ja_fill - 1) y_Ja_fill 5 [some (.ref w), some (.int x), some (.int (nI k)), some (.int (nI n))] [] (wp_fl S w k x) Q := by
    intro m
    induction m with
    | zero =>
      intro k hk
      obtain rfl : k = n := by omega
      refine wp_iload_n d_Ja_fill_5 rfl rfl ?_
      refine wp_iload_n d_Ja_fill_6 rfl rfl ?_
      refine wp_icN_ge (pc' := 20) d_Ja_fill_7 (by decide) (by omega) (by omega) (fun h7 => ?_) (fun h7 => absurd h7 (by omega))
      refine wp_return d_Ja_fill_20 rt_Ja_fill ?_
      exact K
    | succ m ih =>
      intro k hk
      have e := wp_fl_s S w k x
      refine wp_iload_n d_Ja_fill_5 rfl rfl ?_
      refine wp_iload_n d_Ja_fill_6 rfl rfl ?_
      refine wp_icN_ge (pc' := 20) d_Ja_fill_7 (by decide) (by omega) (by omega) (fun h7 => absurd h7 (by omega)) (fun h7 => ?_)
      refine wp_aload_n d_Ja_fill_10 rfl rfl ?_
      refine wp_iload_n d_Ja_fill_11 rfl rfl ?_
      refine wp_iload_n d_Ja_fill_12 rfl rfl ?_
      refine wp_iastore d_Ja_fill_13 (hA _) (by omega) (by omega) ?_
      refine wp_eqS (e) ?_
      refine wp_iinc2 d_Ja_fill_14 rfl (nI_add _ 1) ?_
      refine wp_goto (pc' := 5) d_Ja_fill_17 (by decide) ?_
      exact ih (k + 1) (by omega)
  refine cl_in ml_Ja_fill rfl rfl ?_
  refine wp_iconst (x := nI 0) d_Ja_fill_0 rfl ?_
  refine wp_iston2 d_Ja_fill_1 rfl ?_
  refine wp_aload_n d_Ja_fill_2 rfl rfl ?_
  refine wp_arraylength d_Ja_fill_3 ((wp_alA (hA _))) ?_
  refine wp_iston3 d_Ja_fill_4 rfl ?_
  exact (wp_fl_0 S w x) ▸ loop n 0 (Nat.zero_add _)
theorem c_fcopy {a ta b tb : Nat} (ha : ∀ S, wp_O S a 0 [none, some (.ref ta), none, none, none, none, none, none]) (hb : ∀ S, wp_O S b 0 [none, some (.ref tb), none, none, none, none, none, none]) (hta : ∀ S, wp_A S ta 4) (htb : ∀ S, wp_A S tb 4) (h1 : a ≠ ta) (h2 : a ≠ b) (h3 : a ≠ tb) (K : Q none (fcp S a ta b tb)) : cl h_Fi_copyFrom y_Fi_copyFrom [.ref a, .ref b] S Q := by
  have K := lf_s (fcp_e S h1 h2 h3) K
  refine cl_in ml_Fi_copyFrom rfl rfl ?_
  refine wp_aload_n d_Fi_copyFrom_0 rfl rfl ?_
  refine wp_aload_n d_Fi_copyFrom_1 rfl rfl ?_
  refine wp_getI d_Fi_copyFrom_2 ow_Fi_copyFrom fl_0_15 (hb _) rfl ((rfl : _ = S.2 b 2)) ?_
  refine wp_put (ty := .int) d_Fi_copyFrom_5 ow_Fi_copyFrom fl_0_15 (by decide +kernel) (by decide +kernel) (ha _) rfl ⟨rfl, rfl⟩ ?_
  refine wp_aload_n d_Fi_copyFrom_8 rfl rfl ?_
  refine wp_aload_n d_Fi_copyFrom_9 rfl rfl ?_
  refine wp_getI d_Fi_copyFrom_10 ow_Fi_copyFrom fl_0_19 (hb _) rfl ((wp_un (by omega) : _ = S.2 b 3)) ?_
  refine wp_put (ty := .int) d_Fi_copyFrom_13 ow_Fi_copyFrom fl_0_19 (by decide +kernel) (by decide +kernel) (ha _) rfl ⟨rfl, rfl⟩ ?_
  refine wp_aload_n d_Fi_copyFrom_16 rfl rfl ?_
  refine wp_aload_n d_Fi_copyFrom_17 rfl rfl ?_
  refine wp_getI d_Fi_copyFrom_18 ow_Fi_copyFrom fl_0_22 (hb _) rfl (((wp_un (by omega)).trans (wp_un (by omega)) : _ = S.2 b 4)) ?_
  refine wp_put (ty := .int) d_Fi_copyFrom_21 ow_Fi_copyFrom fl_0_22 (by decide +kernel) (by decide +kernel) (ha _) rfl ⟨rfl, rfl⟩ ?_
  refine wp_aload_n d_Fi_copyFrom_24 rfl rfl ?_
  refine wp_aload_n d_Fi_copyFrom_25 rfl rfl ?_
  refine wp_getI d_Fi_copyFrom_26 ow_Fi_copyFrom fl_0_25 (hb _) rfl (((wp_un (by omega)).trans ((wp_un (by omega)).trans (wp_un (by omega))) : _ = S.2 b 5)) ?_
  refine wp_put (ty := .int) d_Fi_copyFrom_29 ow_Fi_copyFrom fl_0_25 (by decide +kernel) (by decide +kernel) (ha _) rfl ⟨rfl, rfl⟩ ?_
  refine wp_aload_n d_Fi_copyFrom_32 rfl rfl ?_
  refine wp_aload_n d_Fi_copyFrom_33 rfl rfl ?_
  refine wp_getI d_Fi_copyFrom_34 ow_Fi_copyFrom fl_0_28 (hb _) rfl (((wp_un (by omega)).trans ((wp_un (by omega)).trans ((wp_un (by omega)).trans (wp_un (by omega)))) : _ = S.2 b 6)) ?_
  refine wp_put (ty := .int) d_Fi_copyFrom_37 ow_Fi_copyFrom fl_0_28 (by decide +kernel) (by decide +kernel) (ha _) rfl ⟨rfl, rfl⟩ ?_
  refine wp_aload_n d_Fi_copyFrom_40 rfl rfl ?_
  refine wp_aload_n d_Fi_copyFrom_41 rfl rfl ?_
  refine wp_getI d_Fi_copyFrom_42 ow_Fi_copyFrom fl_0_31 (hb _) rfl (((wp_un (by omega)).trans ((wp_un (by omega)).trans ((wp_un (by omega)).trans ((wp_un (by omega)).trans (wp_un (by omega))))) : _ = S.2 b 7)) ?_
  refine wp_put (ty := .int) d_Fi_copyFrom_45 ow_Fi_copyFrom fl_0_31 (by decide +kernel) (by decide +kernel) (ha _) rfl ⟨rfl, rfl⟩ ?_
  refine wp_aload_n d_Fi_copyFrom_48 rfl rfl ?_
  refine wp_getR d_Fi_copyFrom_49 ow_Fi_copyFrom fl_0_9 (hb _) rfl ?_
  refine wp_iconst (x := nI 0) d_Fi_copyFrom_52 rfl ?_
  refine wp_aload_n d_Fi_copyFrom_53 rfl rfl ?_
  refine wp_getR d_Fi_copyFrom_54 ow_Fi_copyFrom fl_0_9 (ha _) rfl ?_
  refine wp_iconst (x := nI 0) d_Fi_copyFrom_57 rfl ?_
  refine wp_iconst (x := nI 4) d_Fi_copyFrom_58 rfl ?_
  refine wp_acp d_Fi_copyFrom_59 ow_Fi_copyFrom lk_0_40 rfl (htb _) (hta _) (by omega) (by omega) (by decide) (by decide) ?_
  refine wp_return d_Fi_copyFrom_62 rt_Fi_copyFrom ?_
  exact K
theorem sp_tz_e (q : sp_R) (i : Nat) : sp_up (sp_up (sp_up (sp_up (sp_up (sp_up q (13 + 10 * i + (6 + 0)) (nI 0)) (13 + 10 * i + (6 + 1)) (nI 0)) (13 + 10 * i + (6 + 2)) (nI 0)) (13 + 10 * i + (6 + 3)) (nI 0)) (13 + 10 * i + 4) (-1)) (13 + 10 * i + 5) (-1) = sp_tz q i := by
  funext j
  unfold sp_tz
  simp only [sp_up]
  repeat' split
  all_goals first | rfl | (exfalso; omega)
/-- a field made to forget -/
def wp_ls1 (S : wp_S) (i : Nat) : wp_S := wp_u (wp_u (wp_u (wp_u (wp_u (wp_u S (14 + 2 * i) 0 (nI 0)) (14 + 2 * i) 1 (nI 0)) (14 + 2 * i) 2 (nI 0)) (14 + 2 * i) 3 (nI 0)) (13 + 2 * i) 6 (-1)) (13 + 2 * i) 7 (-1)
theorem c_loseX {i : Nat} (hi : i < 10) (K : Q none (wp_ls1 S i)) : cl h_Fi_loseAllTold y_Fi_loseAllTold [.ref (13 + 2 * i)] S Q := by
  refine cl_in ml_Fi_loseAllTold rfl rfl ?_
  refine wp_aload_n d_Fi_loseAllTold_0 rfl rfl ?_
  refine wp_getR d_Fi_loseAllTold_1 ow_Fi_loseAllTold fl_0_9 (O_F _ (by omega)) rfl ?_
  refine wp_iconst (x := nI 0) d_Fi_loseAllTold_4 rfl ?_
  refine wp_invS d_Fi_loseAllTold_5 ow_Fi_loseAllTold lk_0_46 (by decide) mi_Ja_fill rfl rfl (Nat.le_of_ble_eq_true rfl) rfl (show h_Ja_fill ≤ _ from by decide) (c_fill (fun S => A_G S hi) (by decide) (nI 0) (lf_s (wp_fl_4 S (14 + 2 * i) (nI 0)) ?_))
  refine wp_Kv ?_
  refine wp_aload_n d_Fi_loseAllTold_8 rfl rfl ?_
  refine wp_iconst (x := -1) d_Fi_loseAllTold_9 rfl ?_
  refine wp_put (ty := .int) d_Fi_loseAllTold_10 ow_Fi_loseAllTold fl_0_28 (by decide +kernel) (by decide +kernel) (O_F _ (by omega)) rfl ⟨rfl, rfl⟩ ?_
  refine wp_aload_n d_Fi_loseAllTold_13 rfl rfl ?_
  refine wp_iconst (x := -1) d_Fi_loseAllTold_14 rfl ?_
  refine wp_put (ty := .int) d_Fi_loseAllTold_15 ow_Fi_loseAllTold fl_0_31 (by decide +kernel) (by decide +kernel) (O_F _ (by omega)) rfl ⟨rfl, rfl⟩ ?_
  refine wp_return d_Fi_loseAllTold_18 rt_Fi_loseAllTold ?_
  exact K
theorem c_lose (C : CL S q) {i : Nat} (hi : i < 10) (K : ∀ S', CL S' (sp_tz q i) → fr cLd S S' → Q none S') : cl h_Fi_loseAllTold y_Fi_loseAllTold [.ref (13 + 2 * i)] S Q := by
  have C2 := ((((((C.wtt hi (o := 0) (by decide) (nI 0)).wtt hi (o := 1) (by decide) (nI 0)).wtt hi (o := 2) (by decide) (nI 0)).wtt hi (o := 3) (by decide) (nI 0)).wf hi (w := 4) (by decide) (-1)).wf hi (w := 5) (by decide) (-1))
  rw [sp_tz_e] at C2
  have hL : ∀ j, cLd (14 + 2 * i) j ∧ cLd (13 + 2 * i) j := fun j => ⟨by unfold cLd; omega, by unfold cLd; omega⟩
  exact c_loseX hi (K _ C2 ((((((fr.rf.up (hL _).1).up (hL _).1).up (hL _).1).up (hL _).1).up (hL _).2).up (hL _).2))
/-- places that agree -/
def CLs (P : Nat → Prop) (S : wp_S) (q : sp_R) : Prop := ∀ j, j < 183 → j ≠ 6 → j ≠ 7 → P j → S.2 (cc j).1 (cc j).2 = q j
theorem CLs_w {P : Nat → Prop} (s : CLs P S q) {j : Nat} (h1 : j < 183) (x : Int32) : CLs (fun i => P i ∨ i = j) (wp_u S (cc j).1 (cc j).2 x) (sp_up q j x) := by
  intro i g1 g2 g3 g4
  rw [wp_u2]
  by_cases hij : i = j
  · subst hij
    rw [if_pos ⟨rfl, rfl⟩, sp_up_eq]
  · rw [if_neg (fun z => hij (cc_inj g1 h1 (Prod.ext z.1 z.2))), sp_up_ne _ _ hij]
    exact s i g1 g2 g3 (g4.elim id (fun z => absurd z hij))
theorem CLs_f {P : Nat → Prop} (s : CLs P S q) {i w : Nat} (hi : i < 10) (hw : w < 6) (x : Int32) : CLs (fun j => P j ∨ j = 13 + 10 * i + w) (wp_u S (13 + 2 * i) (w + 2) x) (sp_up q (13 + 10 * i + w) x) := by
  have := CLs_w s (j := 13 + 10 * i + w) (by omega) x
  rw [cc_f hi hw] at this
  exact this
theorem CLs_t {P : Nat → Prop} (s : CLs P S q) {i o : Nat} (hi : i < 10) (ho : o < 4) (x : Int32) : CLs (fun j => P j ∨ j = 13 + 10 * i + (6 + o)) (wp_u S (14 + 2 * i) o x) (sp_up q (13 + 10 * i + (6 + o)) x) := by
  have := CLs_w s (j := 13 + 10 * i + (6 + o)) (by omega) x
  rw [cc_t hi ho] at this
  exact this
theorem CL_0 (C : CL S q) {P : Nat → Prop} (s : CLs P S q) {n : Nat} (hn : n < 10) (hP : ∀ j, j < 183 → j < 23 + 10 * n ∨ 113 ≤ j → P j) : CL (wp_u S 1 7 (nI (n + 1))) (sp_up q 0 (nI (n + 1))) := by
  have en : sp_n (sp_up q 0 (nI (n + 1))) = n + 1 := by
    unfold sp_n
    rw [sp_up_eq, nI_clamp (by omega)]
  have s2 := CLs_w s (j := 0) (by decide) (nI (n + 1))
  refine ⟨⟨fun j g1 g2 g3 g4 => s2 j g1 g2 g3 (Or.inl (hP j g1 ?_)), by rw [en]; omega⟩, fun i hi => ?_, fun u hu => ?_⟩
  · unfold sp_us1 at g4
    rw [en] at g4
    omega
  · rw [wp_u2, if_neg (by omega)]
    exact C.2.1 i hi
  · have L := C.2.2 u hu
    have e : sp_code (sp_up q 0 (nI (n + 1))) u = sp_code q u := sp_code_c (sp_up_ne _ _ (by omega)) (fun k hk => sp_up_ne _ _ (by omega)) L.1
    refine ⟨sp_tw_up (by omega) (by omega) L.1, ?_, ?_, fun k y hk => ?_⟩
    · rw [e]; exact L.2.1
    · rw [e, wp_u2, if_neg (by omega)]; exact L.2.2.1
    · rw [e] at hk
      rw [wp_u2, if_neg (by omega)]
      exact L.2.2.2 k y hk
end CD
