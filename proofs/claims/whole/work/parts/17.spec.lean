/-! what the system is, in pure words: over a row of 283 numbers (the reference's) -/
abbrev sp_R : Type := Nat → Int32
def sp_n (q : sp_R) : Nat := (q 0).toNatClampNeg
def sp_f (q : sp_R) (i w : Nat) : Int32 := q (13 + 10 * i + w)
def sp_kd (q : sp_R) (i : Nat) : Nat := (sp_f q i 0).toNatClampNeg
def sp_m (q : sp_R) (i : Nat) : Nat := (sp_f q i 1).toNatClampNeg
def sp_told (q : sp_R) (i o : Nat) : Int32 := q (13 + 10 * i + (6 + o))
def sp_fear (q : sp_R) (o : Nat) : Int32 := q (9 + o)
def sp_all (q : sp_R) (i : Nat) : Int32 := nI 0 + sp_told q i 0 + sp_told q i 1 + sp_told q i 2 + sp_told q i 3
def sp_isO (x : Int32) : Prop := x = -1 ∨ ∃ o, o < 4 ∧ x = nI o
def sp_ov : Option Nat → Int32
  | none => -1
  | some b => nI b
def sp_gr (w t : Nat → Int32) : Nat → Option Nat
  | 0 => none
  | k + 1 => match sp_gr w t k with
    | none => if 0 < t k then some k else none
    | some b => if 0 < t k ∧ w b < w k then some k else some b
def sp_ch (q : sp_R) (mu : Int32) : Nat → Nat
  | 0 => 0
  | i + 1 => if nI (i + 1) ≠ mu ∧ sp_kd q (i + 1) = 6 then sp_ch q mu i else i + 1
def sp_self (q : sp_R) (i : Nat) : Int32 :=
  if sp_kd q i = 1 then nI (sp_m q i % 4)
  else if sp_kd q i = 4 then (if i < sp_m q i then nI (sp_m q i % 4) else -1)
  else if sp_kd q i = 2 then sp_ov (sp_gr (sp_fear q) (sp_told q i) 4)
  else if sp_kd q i = 5 then sp_ov (sp_gr (if sp_m q i % 2 = 0 then sp_fear q else sp_told q i) (sp_told q i) 4)
  else if sp_kd q i = 3 ∨ sp_kd q i = 6 then sp_f q i 4 else sp_f q i 5
def sp_says (q : sp_R) (mu : Int32) (i : Nat) : Int32 := if nI (sp_ch q mu i) = mu then -1 else sp_self q (sp_ch q mu i)
/-! texts: read, and worked out on a row of numbers -/
def sp_jn (s x z : Int32) : Int32 :=
  if s = 124 then bi (x ≠ 0 ∨ z ≠ 0) else if s = 38 then bi (x ≠ 0 ∧ z ≠ 0) else if s = 60 then bi (x < z) else if s = 61 then bi (x = z) else if s = 62 then bi (z < x) else if s = 43 then x + z else if s = 45 then x - z else if s = 42 then x * z else if s = 47 then (if z = 0 then 0 else x / z) else (if z = 0 then 0 else x - x / z * z)
def sp_st (a b c g : Int32) (S : List Int32) : List Int32 :=
  if g < 20000 then (if g < 10000 then g else if g = 10000 then a else if g = 10001 then b else c) :: S
  else if g = 20033 then (match S with
    | x :: r => bi (x = 0) :: r
    | [] => [])
  else (match S with
    | z :: x :: r => sp_jn (g - 20000) x z :: r
    | S => S)
def sp_ex (a b c : Int32) : List Int32 → List Int32 → List Int32
  | [], S => S
  | g :: l, S => sp_ex a b c l (sp_st a b c g S)
theorem sp_ex_app (a b c : Int32) : ∀ (l m S : List Int32), sp_ex a b c (l ++ m) S = sp_ex a b c m (sp_ex a b c l S)
  | [], _, _ => rfl
  | g :: l, m, S => sp_ex_app a b c l m (sp_st a b c g S)
def sp_dg (x : Int32) : Bool := decide (48 ≤ x ∧ x ≤ 57)
def sp_op (lv : Nat) (x : Int32) : Bool :=
  if lv = 0 then decide (x = 124) else if lv = 1 then decide (x = 38) else if lv = 2 then decide (x = 60 ∨ x = 61 ∨ x = 62) else if lv = 3 then decide (x = 43 ∨ x = 45) else decide (x = 42 ∨ x = 47 ∨ x = 37)
/-- a number: at most so many digits -/
def sp_nu (by_ : Nat → Int32) : Nat → Nat → Int32 → Nat × Int32
  | 0, k, v => (k, v)
  | f + 1, k, v => if sp_dg (by_ k) = true then sp_nu by_ f (k + 1) (nI 10 * v + by_ k - nI 48) else (k, v)
abbrev sp_P : Type := Bool × Nat × List Int32
def sp_lp (g : Nat → sp_P) (ops : Int32 → Bool) (by_ : Nat → Int32) : Nat → sp_P → sp_P
  | 0, r => r
  | c + 1, r => if r.1 = true ∧ ops (by_ r.2.1) = true then sp_lp g ops by_ c ((g (r.2.1 + 1)).1, (g (r.2.1 + 1)).2.1, r.2.2 ++ (g (r.2.1 + 1)).2.2 ++ [20000 + by_ r.2.1]) else r
/-- fuel, level (5: what is joined), how many stand around, place -/
def sp_pr (by_ : Nat → Int32) (n0 n1 n2 : Int32) : Nat → Nat → Nat → Nat → sp_P
  | 0, _, _, k => (false, k, [])
  | f + 1, lv, op, k =>
    if lv < 5 then sp_lp (fun k => sp_pr by_ n0 n1 n2 f (lv + 1) op k) (sp_op lv) by_ (if lv = 2 then 1 else 50) (sp_pr by_ n0 n1 n2 f (lv + 1) op k)
    else if sp_dg (by_ k) = true then (true, (sp_nu by_ 4 k 0).1, [(sp_nu by_ 4 k 0).2])
    else if by_ k = n0 then (true, k + 1, [10000])
    else if by_ k = n1 then (true, k + 1, [10001])
    else if by_ k = n2 then (true, k + 1, [10002])
    else if by_ k = 33 ∧ op < 5 then ((sp_pr by_ n0 n1 n2 f 5 (op + 1) (k + 1)).1, (sp_pr by_ n0 n1 n2 f 5 (op + 1) (k + 1)).2.1, (sp_pr by_ n0 n1 n2 f 5 (op + 1) (k + 1)).2.2 ++ [20033])
    else if by_ k = 40 ∧ op < 5 then
      (if (sp_pr by_ n0 n1 n2 f 0 (op + 1) (k + 1)).1 = true ∧ by_ (sp_pr by_ n0 n1 n2 f 0 (op + 1) (k + 1)).2.1 = 41 then (true, (sp_pr by_ n0 n1 n2 f 0 (op + 1) (k + 1)).2.1 + 1, (sp_pr by_ n0 n1 n2 f 0 (op + 1) (k + 1)).2.2)
      else (false, (sp_pr by_ n0 n1 n2 f 0 (op + 1) (k + 1)).2.1, (sp_pr by_ n0 n1 n2 f 0 (op + 1) (k + 1)).2.2))
    else (false, k, [])
def sp_n0 (u : Nat) : Int32 := if u = 0 then 110 else 97
def sp_n1 (u : Nat) : Int32 := if u = 0 then 116 else 110
def sp_n2 (u : Nat) : Int32 := if u = 0 then 102 else 109
/-- the bytes of a text of n bytes -/
def sp_by (t : Nat → Int32) (n k : Nat) : Int32 := if k < n then t k else -1
def sp_tx (q : sp_R) (u k : Nat) : Int32 := q (183 + 50 * u + k)
def sp_ps (t : Nat → Int32) (n u : Nat) : sp_P := sp_pr (sp_by t n) (sp_n0 u) (sp_n1 u) (sp_n2 u) 42 0 0 0
def sp_code (q : sp_R) (u : Nat) : List Int32 := if q (6 + u) < 0 then (if u = 0 then [10000, 2, 20062] else [10000]) else (sp_ps (sp_tx q u) (q (6 + u)).toNatClampNeg u).2.2
def sp_raw (q : sp_R) (u : Nat) (a b c : Int32) : Int32 := (sp_ex a b c (sp_code q u) []).headD 0
def sp_cl (v lo hi : Int32) : Int32 := if v < lo then lo else if hi < v then hi else v
def sp_law (q : sp_R) (u : Nat) (a b c : Int32) : Int32 := if u = 0 then sp_raw q 0 a b c else sp_cl (sp_raw q u a b c) 0 999
def sp_ok (q : sp_R) (i : Nat) (o : Int32) : Prop := 0 ≤ o ∧ sp_law q 0 (sp_told q i o.toNatClampNeg) (sp_all q i) (sp_fear q o.toNatClampNeg) ≠ 0
def sp_who (q : sp_R) (mu : Int32) (i : Nat) : Int32 := if 0 ≤ sp_says q mu i ∧ sp_law q 0 (sp_told q i (sp_says q mu i).toNatClampNeg) (sp_all q i) (sp_fear q (sp_says q mu i).toNatClampNeg) ≠ 0 then sp_says q mu i else -1
/-- what holds of a row at all times -/
def sp_fw (q : sp_R) (i : Nat) : Prop := (∃ k, k < 7 ∧ sp_f q i 0 = nI k) ∧ (∃ k, k < 10 ∧ sp_f q i 1 = nI k) ∧ (∃ k, 1 ≤ k ∧ k ≤ 99 ∧ sp_f q i 2 = nI k) ∧ (∃ k, k < 10 ∧ sp_f q i 3 = nI k) ∧ sp_isO (sp_f q i 4) ∧ sp_isO (sp_f q i 5) ∧ ∀ o, o < 4 → ∃ k, k < 10 ∧ sp_told q i o = nI k
def sp_tw (q : sp_R) (u : Nat) : Prop := q (6 + u) = -1 ∨ ∃ n, n ≤ 50 ∧ q (6 + u) = nI n ∧ (sp_ps (sp_tx q u) n u).1 = true ∧ (sp_ps (sp_tx q u) n u).2.1 = n
def sp_wf (q : sp_R) : Prop := (∃ n, n ≤ 10 ∧ q 0 = nI n) ∧ (∀ i, i < sp_n q → sp_fw q i) ∧ (∀ u, u < 2 → sp_tw q u) ∧ (∃ n, n ≤ 9999 ∧ q 1 = nI n) ∧ (∃ n, n ≤ 9999 ∧ q 2 = nI n) ∧ (∃ n, n ≤ 50 ∧ q 4 = nI n) ∧ (∃ n, n ≤ 20 ∧ q 5 = nI n) ∧ (∃ n, 1 ≤ n ∧ n ≤ 20 ∧ q 8 = nI n) ∧ (∀ o, o < 4 → ∃ n, n ≤ 9 ∧ q (9 + o) = nI n) ∧ ∀ k, k < 50 → ∃ n, n < 256 ∧ q (113 + k) = nI n
theorem sp_wf.n {q : sp_R} (h : sp_wf q) : sp_n q ≤ 10 ∧ q 0 = nI (sp_n q) := by
  obtain ⟨⟨n, h1, h2⟩, -⟩ := h
  unfold sp_n
  rw [h2, nI_clamp (by omega)]
  exact ⟨h1, rfl⟩
theorem sp_wf.f {q : sp_R} (h : sp_wf q) {i : Nat} (hi : i < sp_n q) : sp_fw q i := h.2.1 i hi
theorem sp_fw.kd {q : sp_R} {i : Nat} (h : sp_fw q i) : sp_kd q i < 7 ∧ sp_f q i 0 = nI (sp_kd q i) := by
  obtain ⟨⟨k, h1, h2⟩, -⟩ := h
  unfold sp_kd
  rw [h2, nI_clamp (by omega)]
  exact ⟨h1, rfl⟩
theorem sp_fw.m {q : sp_R} {i : Nat} (h : sp_fw q i) : sp_m q i < 10 ∧ sp_f q i 1 = nI (sp_m q i) := by
  obtain ⟨-, ⟨k, h1, h2⟩, -⟩ := h
  unfold sp_m
  rw [h2, nI_clamp (by omega)]
  exact ⟨h1, rfl⟩
theorem sp_fw.told {q : sp_R} {i : Nat} (h : sp_fw q i) {o : Nat} (ho : o < 4) : ∃ k, k < 10 ∧ sp_told q i o = nI k := h.2.2.2.2.2.2 o ho
theorem sp_ch_le (q : sp_R) (mu : Int32) : ∀ i, sp_ch q mu i ≤ i
  | 0 => Nat.le_refl _
  | i + 1 => by
    unfold sp_ch
    split
    · exact Nat.le_succ_of_le (sp_ch_le q mu i)
    · exact Nat.le_refl _
theorem sp_gr_lt (w t : Nat → Int32) : ∀ k b, sp_gr w t k = some b → b < k
  | 0, _, h => by cases h
  | k + 1, b, h => by
    unfold sp_gr at h
    split at h
    · split at h
      · cases h; exact Nat.lt_succ_self _
      · cases h
    · rename_i b0 hb0
      split at h
      · cases h; exact Nat.lt_succ_self _
      · cases h; exact Nat.lt_succ_of_lt (sp_gr_lt w t k _ hb0)
theorem sp_ov_O {w t : Nat → Int32} : sp_isO (sp_ov (sp_gr w t 4)) := by
  cases h : sp_gr w t 4 with
  | none => exact Or.inl rfl
  | some b => exact Or.inr ⟨b, sp_gr_lt w t 4 b h, rfl⟩
theorem sp_self_O {q : sp_R} {i : Nat} (h : sp_fw q i) : sp_isO (sp_self q i) := by
  unfold sp_self
  repeat' split
  · exact Or.inr ⟨_, Nat.mod_lt _ (by decide), rfl⟩
  · exact Or.inr ⟨_, Nat.mod_lt _ (by decide), rfl⟩
  · exact Or.inl rfl
  · exact sp_ov_O
  · exact sp_ov_O
  · exact sp_ov_O
  · exact h.2.2.2.2.1
  · exact h.2.2.2.2.2.1
theorem sp_says_O {q : sp_R} {mu : Int32} {i : Nat} (hw : sp_wf q) (hi : i < sp_n q) : sp_isO (sp_says q mu i) := by
  unfold sp_says
  split
  · exact Or.inl rfl
  · exact sp_self_O (hw.f (Nat.lt_of_le_of_lt (sp_ch_le q mu i) hi))
theorem sp_O_cases {x : Int32} (h : sp_isO x) : (x = -1 ∧ ¬ 0 ≤ x) ∨ ∃ o, o < 4 ∧ x = nI o ∧ 0 ≤ x ∧ x.toNatClampNeg = o := by
  rcases h with h | ⟨o, h1, h2⟩
  · exact Or.inl ⟨h, by rw [h]; decide⟩
  · exact Or.inr ⟨o, h1, h2, by rw [h2]; exact nI_pos' (by omega), by rw [h2]; exact nI_clamp (by omega)⟩
/-- only places of D changed -/
def fr (D : Nat → Nat → Prop) (S S' : wp_S) : Prop := S'.1 = S.1 ∧ ∀ k j, ¬ D k j → S'.2 k j = S.2 k j
theorem fr.rf {D : Nat → Nat → Prop} {S : wp_S} : fr D S S := ⟨rfl, fun _ _ _ => rfl⟩
theorem fr.tr {D : Nat → Nat → Prop} {S S' S'' : wp_S} (h : fr D S S') (h' : fr D S' S'') : fr D S S'' := ⟨h'.1.trans h.1, fun k j q => (h'.2 k j q).trans (h.2 k j q)⟩
theorem fr.up {D : Nat → Nat → Prop} {S S' : wp_S} (h : fr D S S') {k j : Nat} {x : Int32} (hD : D k j) : fr D S (wp_u S' k j x) := ⟨h.1, fun a b q => by
  rw [wp_u2, if_neg (fun z => q (by rw [z.1, z.2]; exact hD))]
  exact h.2 a b q⟩
theorem fr.cp {D : Nat → Nat → Prop} {S S' : wp_S} (h : fr D S S') {s e sp dp n : Nat} (hD : ∀ j, D e j) : fr D S (wp_cp S' s e sp dp n) := ⟨h.1, fun a b q => by
  rw [wp_cp2, if_neg (fun z => q (by rw [z.1]; exact hD b))]
  exact h.2 a b q⟩
theorem fr.mono {D E : Nat → Nat → Prop} {S S' : wp_S} (h : fr D S S') (hE : ∀ k j, D k j → E k j) : fr E S S' := ⟨h.1, fun k j q => h.2 k j (fun z => q (hE k j z))⟩
theorem fr.row {D : Nat → Nat → Prop} {S S' : wp_S} (h : fr D S S') {k : Nat} (hk : ∀ j, ¬ D k j) : S'.2 k = S.2 k := by
  funext j
  exact h.2 k j (hk j)
