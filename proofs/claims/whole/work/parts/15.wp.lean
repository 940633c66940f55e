/-! states of the system: which text the reader has names of, the memory; wp: from a place of a method it comes to its return; cl: a call -/
abbrev wp_S : Type := Nat × (Nat → Nat → Int32)
def wp_h (S : wp_S) : ab_H := (ab_SH S.1, S.2)
def wp (d y pc : Nat) (ls : ab_L) (st : List Value) (S : wp_S) (Q : Option Value → wp_S → Prop) : Prop := ∃ n r S', ab_run (ab_cal none d) none y n (pc, ls, st, wp_h S) r (wp_h S') ∧ Q r S'
def cl (d y : Nat) (as : List Value) (S : wp_S) (Q : Option Value → wp_S → Prop) : Prop := ∃ r S', ab_cal none d y as (wp_h S) r (wp_h S') ∧ Q r S'
def wp_u (S : wp_S) (k j : Nat) (x : Int32) : wp_S := (S.1, ab_up S.2 k j x)
theorem wp_u2 (S : wp_S) (k j : Nat) (x : Int32) (a b : Nat) : (wp_u S k j x).2 a b = if a = k ∧ b = j then x else S.2 a b := rfl
theorem wp_u1 (S : wp_S) (k j : Nat) (x : Int32) : (wp_u S k j x).1 = S.1 := rfl
def bi (P : Prop) [Decidable P] : Int32 := if P then 1 else 0
theorem bi_t {P : Prop} [Decidable P] (h : P) : bi P = 1 := if_pos h
theorem bi_f {P : Prop} [Decidable P] (h : ¬ P) : bi P = 0 := if_neg h
theorem bi_ne {P : Prop} [Decidable P] : bi P ≠ 0 ↔ P := by
  by_cases h : P
  · rw [bi_t h]; exact ⟨fun _ => h, fun _ => by decide⟩
  · rw [bi_f h]; exact ⟨fun q => absurd rfl q, fun q => absurd q h⟩
theorem bi_eq {P : Prop} [Decidable P] : bi P = 0 ↔ ¬ P := by
  by_cases h : P
  · rw [bi_t h]; exact ⟨fun q => absurd q (by decide), fun q => absurd h q⟩
  · rw [bi_f h]; exact ⟨fun _ => h, fun _ => rfl⟩
theorem bi_nar {P : Prop} [Decidable P] : narrow .boolean (.int (bi P)) = .int (bi P) := by
  by_cases h : P
  · rw [bi_t h]; rfl
  · rw [bi_f h]; rfl
theorem bi_fit {P : Prop} [Decidable P] : fits .boolean (.int (bi P)) = true := by
  by_cases h : P
  · rw [bi_t h]; rfl
  · rw [bi_f h]; rfl
theorem bi_iff {P R : Prop} [Decidable P] [Decidable R] (h : P ↔ R) : bi P = bi R := by
  by_cases hp : P
  · rw [bi_t hp, bi_t (h.mp hp)]
  · rw [bi_f hp, bi_f (fun q => hp (h.mpr q))]
theorem lf_i {x y : Int32} {S : wp_S} {Q : Option Value → wp_S → Prop} (e : x = y) (k : Q (some (.int y)) S) : Q (some (.int x)) S := e ▸ k
theorem lf_s {r : Option Value} {S S' : wp_S} {Q : Option Value → wp_S → Prop} (e : S = S') (k : Q r S') : Q r S := e ▸ k
def ab_mi (k : Nat) : Option (Nat × Bool × Nat × Bool) := match ab_MT[k]? with
  | some e => some (e.2.2.2.2.2.1, e.2.2.2.2.2.2, e.2.2.2.2.1, ab_ini k)
  | none => none
section WP
variable {d y pc : Nat} {ls ls' : ab_L} {st st' r : List Value} {S S' : wp_S} {Q : Option Value → wp_S → Prop}
theorem wp_st {pc' : Nat} (hs : ab_stp none y (pc, ls, st, wp_h S) = some (.inl (pc', ls', st', wp_h S'))) (k : wp d y pc' ls' st' S' Q) : wp d y pc ls st S Q := by
  obtain ⟨n, r, S2, h1, h2⟩ := k
  refine ⟨n + 1, r, S2, ?_, h2⟩
  unfold ab_run
  rw [hs]
  exact h1
theorem wp_ex {i : Instr} {n pc' : Nat} (hd : ab_ins y pc = some (i, n)) (hx : ab_ex none y i n pc ls st (wp_h S) = some (.inl (pc', ls', st', wp_h S'))) (k : wp d y pc' ls' st' S' Q) : wp d y pc ls st S Q := by
  refine wp_st ?_ k
  unfold ab_stp
  dsimp only
  rw [hd]
  exact hx
theorem cl_mono {d' : Nat} {as : List Value} (h : d ≤ d') (c : cl d y as S Q) : cl d' y as S Q := by
  obtain ⟨r, S', h1, h2⟩ := c
  exact ⟨r, S', ab_cal_le d d' y as _ r _ h h1, h2⟩
theorem cl_imp {as : List Value} {Q' : Option Value → wp_S → Prop} (c : cl d y as S Q) (h : ∀ r S', Q r S' → Q' r S') : cl d y as S Q' := by
  obtain ⟨r, S', h1, h2⟩ := c
  exact ⟨r, S', h1, h _ _ h2⟩
def wp_K (d y pc : Nat) (ls : ab_L) (r : List Value) (Q : Option Value → wp_S → Prop) : Option Value → wp_S → Prop := fun q S1 => wp d y pc ls (q.toList ++ r) S1 Q
theorem wp_Ki {x : Int32} (k : wp d y pc ls (.int x :: st) S Q) : wp_K d y pc ls st Q (some (.int x)) S := k
theorem wp_Kl {x : Int64} (k : wp d y pc ls (.long x :: st) S Q) : wp_K d y pc ls st Q (some (.long x)) S := k
theorem wp_Kr {x : Nat} (k : wp d y pc ls (.ref x :: st) S Q) : wp_K d y pc ls st Q (some (.ref x)) S := k
theorem wp_Kv (k : wp d y pc ls st S Q) : wp_K d y pc ls st Q none S := k
theorem cl_in {as : List Value} {n : Nat} (hm : ab_ml y = n) (he : ab_ent n as = ls) (hl : ls.length = n) (k : wp d y 0 ls [] S Q) : cl (d + 1) y as S Q := by
  obtain ⟨n', r, S', h1, h2⟩ := k
  refine ⟨r, S', ⟨by rw [hm, he, hl], n', ?_⟩, h2⟩
  rw [hm, he]
  exact h1
theorem wp_ca {k0 pc' : Nat} {as : List Value} {d0 : Nat} (hs : ab_stp none y (pc, ls, st, wp_h S) = some (.inr (.inl (k0, as, (pc', ls, st', wp_h S))))) (hle : d0 ≤ d) (hc : cl d0 k0 as S (fun r S1 => wp d y pc' ls (r.toList ++ st') S1 Q)) : wp d y pc ls st S Q := by
  obtain ⟨r1, S1, h1, n, r, S2, h2, h3⟩ := hc
  refine ⟨n + 1, r, S2, ?_, h3⟩
  unfold ab_run
  rw [hs]
  exact ⟨r1, wp_h S1, ab_cal_le d0 d k0 as _ r1 _ hle h1, h2⟩
theorem wp_rt {v : Option Value} (hs : ab_stp none y (pc, ls, st, wp_h S) = some (.inr (.inr v))) (k : Q v S) : wp d y pc ls st S Q := by
  refine ⟨1, v, S, ?_, k⟩
  unfold ab_run
  rw [hs]
  exact ⟨rfl, rfl⟩
theorem wp_xr {i : Instr} {n : Nat} {v : Option Value} (hd : ab_ins y pc = some (i, n)) (hx : ab_ex none y i n pc ls st (wp_h S) = some (.inr (.inr v))) (k : Q v S) : wp d y pc ls st S Q := by
  refine wp_rt ?_ k
  unfold ab_stp
  dsimp only
  rw [hd]
  exact hx
theorem wp_xc {i : Instr} {n k0 pc' : Nat} {as : List Value} {d0 : Nat} (hd : ab_ins y pc = some (i, n)) (hx : ab_ex none y i n pc ls st (wp_h S) = some (.inr (.inl (k0, as, (pc', ls, st', wp_h S))))) (hle : d0 ≤ d) (hc : cl d0 k0 as S (fun r S1 => wp d y pc' ls (r.toList ++ st') S1 Q)) : wp d y pc ls st S Q := by
  refine wp_ca ?_ hle hc
  unfold ab_stp
  dsimp only
  rw [hd]
  exact hx
theorem wp_iconst {z : Int} {x : Int32} (hd : ab_ins y pc = some (.iconst z, 1)) (hv : Int32.ofInt z = x) (k : wp d y (pc + 1) ls (.int x :: st) S Q) : wp d y pc ls st S Q := wp_ex hd (by subst hv; rfl) k
theorem wp_bipush {z : Int} {x : Int32} (hd : ab_ins y pc = some (.bipush z, 2)) (hv : (Int8.ofInt z).toInt32 = x) (k : wp d y (pc + 2) ls (.int x :: st) S Q) : wp d y pc ls st S Q := wp_ex hd (by subst hv; rfl) k
theorem wp_sipush {z : Int} {x : Int32} (hd : ab_ins y pc = some (.sipush z, 3)) (hv : (Int16.ofInt z).toInt32 = x) (k : wp d y (pc + 3) ls (.int x :: st) S Q) : wp d y pc ls st S Q := wp_ex hd (by subst hv; rfl) k
theorem wp_lconst {z : Fin 2} {x : Int64} (hd : ab_ins y pc = some (.lconst z, 1)) (hv : Int64.ofNat (z : Nat) = x) (k : wp d y (pc + 1) ls (.long x :: st) S Q) : wp d y pc ls st S Q := wp_ex hd (by subst hv; rfl) k
theorem wp_ldc {o j : Nat} {v : Value} (hd : ab_ins y pc = some (.ldc j, 2)) (ho : ab_own y = o) (hv : ab_ldc o j = some v) (k : wp d y (pc + 2) ls (v :: st) S Q) : wp d y pc ls st S Q := wp_ex hd (by
  show ab_lo (ab_ldc (ab_own y) j) (pc + 2) ls st (wp_h S) = _
  rw [ho, hv]
  rfl) k
theorem wp_ldc_w {o j : Nat} {v : Int32} (hd : ab_ins y pc = some (.ldc_w j, 3)) (ho : ab_own y = o) (hv : ab_f3 ab_LC o j = some v) (k : wp d y (pc + 3) ls (.int v :: st) S Q) : wp d y pc ls st S Q := wp_ex hd (by
  show (match ab_f3 ab_LC (ab_own y) j with | some x => ab_go (pc + 3) ls (.int x :: st) (wp_h S) | none => none) = _
  rw [ho, hv]
  rfl) k
theorem wp_ldc2_w {o j : Nat} {v : Int64} (hd : ab_ins y pc = some (.ldc2_w j, 3)) (ho : ab_own y = o) (hv : ab_f3 ab_LL o j = some v) (k : wp d y (pc + 3) ls (.long v :: st) S Q) : wp d y pc ls st S Q := wp_ex hd (by
  show (match ab_f3 ab_LL (ab_own y) j with | some x => ab_go (pc + 3) ls (.long x :: st) (wp_h S) | none => none) = _
  rw [ho, hv]
  rfl) k
theorem wp_getstatic {o j : Nat} {v : Value × Nat × Nat} (hd : ab_ins y pc = some (.getstatic j, 3)) (ho : ab_own y = o) (hv : ab_f3 ab_GS o j = some v) (k : wp d y (pc + 3) ls (v.1 :: st) S Q) : wp d y pc ls st S Q := wp_ex hd (by
  show (match ab_f3 ab_GS (ab_own y) j with | some v => ab_go (pc + 3) ls (v.1 :: st) (wp_h S) | none => none) = _
  rw [ho, hv]
  rfl) k
theorem ab_ld_of {i : Nat} {v : Value} (h : ls[i]? = some (some v)) : ab_ld ls i = some v := by unfold ab_ld; rw [h]
theorem wp_iload {j : Nat} {x : Int32} (hd : ab_ins y pc = some (.iload j, 2)) (hv : ls[j]? = some (some (.int x))) (k : wp d y (pc + 2) ls (.int x :: st) S Q) : wp d y pc ls st S Q := wp_ex hd (by show ab_lo (ab_li ls j) (pc + 2) ls st (wp_h S) = _; unfold ab_li; rw [ab_ld_of hv]; rfl) k
theorem wp_iload_n {j : Fin 4} {i : Nat} {x : Int32} (hd : ab_ins y pc = some (.iload_n j, 1)) (hi : (j : Nat) = i) (hv : ls[i]? = some (some (.int x))) (k : wp d y (pc + 1) ls (.int x :: st) S Q) : wp d y pc ls st S Q := wp_ex hd (by subst hi; show ab_lo (ab_li ls (j : Nat)) (pc + 1) ls st (wp_h S) = _; unfold ab_li; rw [ab_ld_of hv]; rfl) k
theorem wp_lload {j : Nat} {x : Int64} (hd : ab_ins y pc = some (.lload j, 2)) (hv : ls[j]? = some (some (.long x))) (k : wp d y (pc + 2) ls (.long x :: st) S Q) : wp d y pc ls st S Q := wp_ex hd (by show ab_lo (ab_ll ls j) (pc + 2) ls st (wp_h S) = _; unfold ab_ll; rw [ab_ld_of hv]; rfl) k
theorem wp_lload_n {j : Fin 4} {i : Nat} {x : Int64} (hd : ab_ins y pc = some (.lload_n j, 1)) (hi : (j : Nat) = i) (hv : ls[i]? = some (some (.long x))) (k : wp d y (pc + 1) ls (.long x :: st) S Q) : wp d y pc ls st S Q := wp_ex hd (by subst hi; show ab_lo (ab_ll ls (j : Nat)) (pc + 1) ls st (wp_h S) = _; unfold ab_ll; rw [ab_ld_of hv]; rfl) k
theorem wp_aload {j : Nat} {x : Nat} (hd : ab_ins y pc = some (.aload j, 2)) (hv : ls[j]? = some (some (.ref x))) (k : wp d y (pc + 2) ls (.ref x :: st) S Q) : wp d y pc ls st S Q := wp_ex hd (by show ab_lo (ab_la ls j) (pc + 2) ls st (wp_h S) = _; unfold ab_la; rw [ab_ld_of hv]; rfl) k
theorem wp_aload_n {j : Fin 4} {i : Nat} {x : Nat} (hd : ab_ins y pc = some (.aload_n j, 1)) (hi : (j : Nat) = i) (hv : ls[i]? = some (some (.ref x))) (k : wp d y (pc + 1) ls (.ref x :: st) S Q) : wp d y pc ls st S Q := wp_ex hd (by subst hi; show ab_lo (ab_la ls (j : Nat)) (pc + 1) ls st (wp_h S) = _; unfold ab_la; rw [ab_ld_of hv]; rfl) k
theorem wp_istore {j : Nat} {x : Int32} (hd : ab_ins y pc = some (.istore j, 2)) (hv : ab_s1 ls j (.int x) = some ls') (k : wp d y (pc + 2) ls' st S Q) : wp d y pc ls (.int x :: st) S Q := wp_ex hd (by show ab_so (ab_s1 ls j (.int x)) (pc + 2) st (wp_h S) = _; rw [hv]; rfl) k
theorem wp_istore_n {j : Fin 4} {i : Nat} {x : Int32} (hd : ab_ins y pc = some (.istore_n j, 1)) (hi : (j : Nat) = i) (hv : ab_s1 ls i (.int x) = some ls') (k : wp d y (pc + 1) ls' st S Q) : wp d y pc ls (.int x :: st) S Q := wp_ex hd (by subst hi; show ab_so (ab_s1 ls (j : Nat) (.int x)) (pc + 1) st (wp_h S) = _; rw [hv]; rfl) k
theorem wp_lstore {j : Nat} {x : Int64} (hd : ab_ins y pc = some (.lstore j, 2)) (hv : ab_s2 ls j (.long x) = some ls') (k : wp d y (pc + 2) ls' st S Q) : wp d y pc ls (.long x :: st) S Q := wp_ex hd (by show ab_so (ab_s2 ls j (.long x)) (pc + 2) st (wp_h S) = _; rw [hv]; rfl) k
theorem wp_lstore_n {j : Fin 4} {i : Nat} {x : Int64} (hd : ab_ins y pc = some (.lstore_n j, 1)) (hi : (j : Nat) = i) (hv : ab_s2 ls i (.long x) = some ls') (k : wp d y (pc + 1) ls' st S Q) : wp d y pc ls (.long x :: st) S Q := wp_ex hd (by subst hi; show ab_so (ab_s2 ls (j : Nat) (.long x)) (pc + 1) st (wp_h S) = _; rw [hv]; rfl) k
theorem wp_astore {j : Nat} {x : Nat} (hd : ab_ins y pc = some (.astore j, 2)) (hv : ab_s1 ls j (.ref x) = some ls') (k : wp d y (pc + 2) ls' st S Q) : wp d y pc ls (.ref x :: st) S Q := wp_ex hd (by show ab_so (ab_s1 ls j (.ref x)) (pc + 2) st (wp_h S) = _; rw [hv]; rfl) k
theorem wp_astore_n {j : Fin 4} {i : Nat} {x : Nat} (hd : ab_ins y pc = some (.astore_n j, 1)) (hi : (j : Nat) = i) (hv : ab_s1 ls i (.ref x) = some ls') (k : wp d y (pc + 1) ls' st S Q) : wp d y pc ls (.ref x :: st) S Q := wp_ex hd (by subst hi; show ab_so (ab_s1 ls (j : Nat) (.ref x)) (pc + 1) st (wp_h S) = _; rw [hv]; rfl) k
theorem wp_iinc {j : Nat} {z : Int} {x v : Int32} (hd : ab_ins y pc = some (.iinc j z, 3)) (hv : ls[j]? = some (some (.int x))) (he : x + Int32.ofInt z = v) (hs : ab_s1 ls j (.int v) = some ls') (k : wp d y (pc + 3) ls' st S Q) : wp d y pc ls st S Q := wp_ex hd (by show (match ab_ld ls j with | some (.int x) => ab_so (ab_s1 ls j (.int (x + Int32.ofInt z))) (pc + 3) st (wp_h S) | _ => none) = _; rw [ab_ld_of hv]; dsimp only; rw [he, hs]; rfl) k
theorem wp_iadd {x z v : Int32} (hd : ab_ins y pc = some (.iadd, 1)) (hv : x + z = v) (k : wp d y (pc + 1) ls (.int v :: st) S Q) : wp d y pc ls (.int z :: .int x :: st) S Q := wp_ex hd (by subst hv; rfl) k
theorem wp_isub {x z v : Int32} (hd : ab_ins y pc = some (.isub, 1)) (hv : x - z = v) (k : wp d y (pc + 1) ls (.int v :: st) S Q) : wp d y pc ls (.int z :: .int x :: st) S Q := wp_ex hd (by subst hv; rfl) k
theorem wp_imul {x z v : Int32} (hd : ab_ins y pc = some (.imul, 1)) (hv : x * z = v) (k : wp d y (pc + 1) ls (.int v :: st) S Q) : wp d y pc ls (.int z :: .int x :: st) S Q := wp_ex hd (by subst hv; rfl) k
theorem wp_iand {x z v : Int32} (hd : ab_ins y pc = some (.iand, 1)) (hv : x &&& z = v) (k : wp d y (pc + 1) ls (.int v :: st) S Q) : wp d y pc ls (.int z :: .int x :: st) S Q := wp_ex hd (by subst hv; rfl) k
theorem wp_ior {x z v : Int32} (hd : ab_ins y pc = some (.ior, 1)) (hv : x ||| z = v) (k : wp d y (pc + 1) ls (.int v :: st) S Q) : wp d y pc ls (.int z :: .int x :: st) S Q := wp_ex hd (by subst hv; rfl) k
theorem wp_ixor {x z v : Int32} (hd : ab_ins y pc = some (.ixor, 1)) (hv : x ^^^ z = v) (k : wp d y (pc + 1) ls (.int v :: st) S Q) : wp d y pc ls (.int z :: .int x :: st) S Q := wp_ex hd (by subst hv; rfl) k
theorem wp_ishl {x z v : Int32} (hd : ab_ins y pc = some (.ishl, 1)) (hv : x <<< (z &&& 31) = v) (k : wp d y (pc + 1) ls (.int v :: st) S Q) : wp d y pc ls (.int z :: .int x :: st) S Q := wp_ex hd (by subst hv; rfl) k
theorem wp_ishr {x z v : Int32} (hd : ab_ins y pc = some (.ishr, 1)) (hv : x >>> (z &&& 31) = v) (k : wp d y (pc + 1) ls (.int v :: st) S Q) : wp d y pc ls (.int z :: .int x :: st) S Q := wp_ex hd (by subst hv; rfl) k
theorem wp_iushr {x z v : Int32} (hd : ab_ins y pc = some (.iushr, 1)) (hv : (x.toUInt32 >>> (z.toUInt32 &&& Int32.toUInt32 31)).toInt32 = v) (k : wp d y (pc + 1) ls (.int v :: st) S Q) : wp d y pc ls (.int z :: .int x :: st) S Q := wp_ex hd (by subst hv; rfl) k
theorem wp_idiv {x z v : Int32} (hd : ab_ins y pc = some (.idiv, 1)) (hz : ¬ z = 0) (hv : x / z = v) (k : wp d y (pc + 1) ls (.int v :: st) S Q) : wp d y pc ls (.int z :: .int x :: st) S Q := wp_ex hd (by subst hv; show (if z = 0 then none else _) = _; rw [if_neg hz]; rfl) k
theorem wp_irem {x z v : Int32} (hd : ab_ins y pc = some (.irem, 1)) (hz : ¬ z = 0) (hv : x - x / z * z = v) (k : wp d y (pc + 1) ls (.int v :: st) S Q) : wp d y pc ls (.int z :: .int x :: st) S Q := wp_ex hd (by subst hv; show (if z = 0 then none else _) = _; rw [if_neg hz]; rfl) k
theorem wp_lsub {x z v : Int64} (hd : ab_ins y pc = some (.lsub, 1)) (hv : x - z = v) (k : wp d y (pc + 1) ls (.long v :: st) S Q) : wp d y pc ls (.long z :: .long x :: st) S Q := wp_ex hd (by subst hv; rfl) k
theorem wp_lmul {x z v : Int64} (hd : ab_ins y pc = some (.lmul, 1)) (hv : x * z = v) (k : wp d y (pc + 1) ls (.long v :: st) S Q) : wp d y pc ls (.long z :: .long x :: st) S Q := wp_ex hd (by subst hv; rfl) k
theorem wp_land {x z v : Int64} (hd : ab_ins y pc = some (.land, 1)) (hv : x &&& z = v) (k : wp d y (pc + 1) ls (.long v :: st) S Q) : wp d y pc ls (.long z :: .long x :: st) S Q := wp_ex hd (by subst hv; rfl) k
theorem wp_lor {x z v : Int64} (hd : ab_ins y pc = some (.lor, 1)) (hv : x ||| z = v) (k : wp d y (pc + 1) ls (.long v :: st) S Q) : wp d y pc ls (.long z :: .long x :: st) S Q := wp_ex hd (by subst hv; rfl) k
theorem wp_ldiv {x z v : Int64} (hd : ab_ins y pc = some (.ldiv, 1)) (hz : ¬ z = 0) (hv : x / z = v) (k : wp d y (pc + 1) ls (.long v :: st) S Q) : wp d y pc ls (.long z :: .long x :: st) S Q := wp_ex hd (by subst hv; show (if z = 0 then none else _) = _; rw [if_neg hz]; rfl) k
theorem wp_lrem {x z v : Int64} (hd : ab_ins y pc = some (.lrem, 1)) (hz : ¬ z = 0) (hv : x - x / z * z = v) (k : wp d y (pc + 1) ls (.long v :: st) S Q) : wp d y pc ls (.long z :: .long x :: st) S Q := wp_ex hd (by subst hv; show (if z = 0 then none else _) = _; rw [if_neg hz]; rfl) k
theorem wp_lshl {x v : Int64} {z : Int32} (hd : ab_ins y pc = some (.lshl, 1)) (hv : x <<< (z.toInt64 &&& 63) = v) (k : wp d y (pc + 1) ls (.long v :: st) S Q) : wp d y pc ls (.int z :: .long x :: st) S Q := wp_ex hd (by subst hv; rfl) k
theorem wp_lshr {x v : Int64} {z : Int32} (hd : ab_ins y pc = some (.lshr, 1)) (hv : x >>> (z.toInt64 &&& 63) = v) (k : wp d y (pc + 1) ls (.long v :: st) S Q) : wp d y pc ls (.int z :: .long x :: st) S Q := wp_ex hd (by subst hv; rfl) k
theorem wp_lushr {x v : Int64} {z : Int32} (hd : ab_ins y pc = some (.lushr, 1)) (hv : (x.toUInt64 >>> (z.toInt64.toUInt64 &&& Int64.toUInt64 63)).toInt64 = v) (k : wp d y (pc + 1) ls (.long v :: st) S Q) : wp d y pc ls (.int z :: .long x :: st) S Q := wp_ex hd (by subst hv; rfl) k
theorem wp_ineg {x v : Int32} (hd : ab_ins y pc = some (.ineg, 1)) (hv : -x = v) (k : wp d y (pc + 1) ls (.int v :: st) S Q) : wp d y pc ls (.int x :: st) S Q := wp_ex hd (by subst hv; rfl) k
theorem wp_i2b {x v : Int32} (hd : ab_ins y pc = some (.i2b, 1)) (hv : x.toInt8.toInt32 = v) (k : wp d y (pc + 1) ls (.int v :: st) S Q) : wp d y pc ls (.int x :: st) S Q := wp_ex hd (by subst hv; rfl) k
theorem wp_i2s {x v : Int32} (hd : ab_ins y pc = some (.i2s, 1)) (hv : x.toInt16.toInt32 = v) (k : wp d y (pc + 1) ls (.int v :: st) S Q) : wp d y pc ls (.int x :: st) S Q := wp_ex hd (by subst hv; rfl) k
theorem wp_i2c {x v : Int32} (hd : ab_ins y pc = some (.i2c, 1)) (hv : (x.toUInt32 % 65536).toInt32 = v) (k : wp d y (pc + 1) ls (.int v :: st) S Q) : wp d y pc ls (.int x :: st) S Q := wp_ex hd (by subst hv; rfl) k
theorem wp_i2l {x : Int32} {v : Int64} (hd : ab_ins y pc = some (.i2l, 1)) (hv : x.toInt64 = v) (k : wp d y (pc + 1) ls (.long v :: st) S Q) : wp d y pc ls (.int x :: st) S Q := wp_ex hd (by subst hv; rfl) k
theorem wp_l2i {x : Int64} {v : Int32} (hd : ab_ins y pc = some (.l2i, 1)) (hv : x.toInt32 = v) (k : wp d y (pc + 1) ls (.int v :: st) S Q) : wp d y pc ls (.long x :: st) S Q := wp_ex hd (by subst hv; rfl) k
theorem wp_lcmp {x z : Int64} {v : Int32} (hd : ab_ins y pc = some (.lcmp, 1)) (hv : lg_cmp x z = v) (k : wp d y (pc + 1) ls (.int v :: st) S Q) : wp d y pc ls (.long z :: .long x :: st) S Q := wp_ex hd (by subst hv; rfl) k
theorem wp_dup {v : Value} (hd : ab_ins y pc = some (.dup, 1)) (hc : v.category = 1) (k : wp d y (pc + 1) ls (v :: v :: st) S Q) : wp d y pc ls (v :: st) S Q := wp_ex hd (by show (if v.category = 1 then _ else none) = _; rw [if_pos hc]; rfl) k
theorem wp_dup2 {v w : Value} (hd : ab_ins y pc = some (.dup2, 1)) (hc : v.category = 1 ∧ w.category = 1) (k : wp d y (pc + 1) ls (v :: w :: v :: w :: st) S Q) : wp d y pc ls (v :: w :: st) S Q := wp_ex hd (by show (if v.category = 1 ∧ w.category = 1 then _ else none) = _; rw [if_pos hc]; rfl) k
theorem wp_pop {v : Value} (hd : ab_ins y pc = some (.pop, 1)) (hc : v.category = 1) (k : wp d y (pc + 1) ls st S Q) : wp d y pc ls (v :: st) S Q := wp_ex hd (by show (if v.category = 1 then _ else none) = _; rw [if_pos hc]; rfl) k
theorem wp_jp {pc' : Nat} {off : Int} {h : ab_H} (ht : (pc : Int) + off = (pc' : Int)) : ab_jp pc off ls st h = some (.inl (pc', ls, st, h)) := by
  unfold ab_jp
  rw [if_pos (by omega), ht]
  rfl
theorem wp_goto {pc' : Nat} {off : Int} (hd : ab_ins y pc = some (.goto off, 3)) (ht : (pc : Int) + off = (pc' : Int)) (k : wp d y pc' ls st S Q) : wp d y pc ls st S Q := wp_ex hd (by show (if 3 = 3 then ab_jp pc off ls st (wp_h S) else none) = _; rw [if_pos rfl, wp_jp ht]) k
theorem wp_ic {pc' : Nat} {off : Int} {c : Jvm.ClassFile.Cond} {x z : Int32} (hd : ab_ins y pc = some (.if_icmp c off, 3)) (ht : (pc : Int) + off = (pc' : Int)) (kt : ab_cc c x z = true → wp d y pc' ls st S Q) (kf : ab_cc c x z = false → wp d y (pc + 3) ls st S Q) : wp d y pc ls (.int z :: .int x :: st) S Q := by
  cases hc : ab_cc c x z with
  | true => exact wp_ex hd (by show (if 3 = 3 ∧ 0 ≤ (pc : Int) + off then (if ab_cc c x z = true then ab_jp pc off ls st (wp_h S) else _) else none) = _; rw [if_pos ⟨rfl, by omega⟩, if_pos hc, wp_jp ht]) (kt hc)
  | false => exact wp_ex hd (by show (if 3 = 3 ∧ 0 ≤ (pc : Int) + off then (if ab_cc c x z = true then _ else ab_go (pc + 3) ls st (wp_h S)) else none) = _; rw [if_pos ⟨rfl, by omega⟩, if_neg (by rw [hc]; decide)]; rfl) (kf hc)
theorem wp_if {pc' : Nat} {off : Int} {c : Jvm.ClassFile.Cond} {x : Int32} (hd : ab_ins y pc = some (.ifCond c off, 3)) (ht : (pc : Int) + off = (pc' : Int)) (kt : ab_cc c x 0 = true → wp d y pc' ls st S Q) (kf : ab_cc c x 0 = false → wp d y (pc + 3) ls st S Q) : wp d y pc ls (.int x :: st) S Q := by
  cases hc : ab_cc c x 0 with
  | true => exact wp_ex hd (by show (if 3 = 3 ∧ 0 ≤ (pc : Int) + off then (if ab_cc c x 0 = true then ab_jp pc off ls st (wp_h S) else _) else none) = _; rw [if_pos ⟨rfl, by omega⟩, if_pos hc, wp_jp ht]) (kt hc)
  | false => exact wp_ex hd (by show (if 3 = 3 ∧ 0 ≤ (pc : Int) + off then (if ab_cc c x 0 = true then _ else ab_go (pc + 3) ls st (wp_h S)) else none) = _; rw [if_pos ⟨rfl, by omega⟩, if_neg (by rw [hc]; decide)]; rfl) (kf hc)
theorem wp_ic_eq {pc' : Nat} {off : Int} {x z : Int32} (hd : ab_ins y pc = some (.if_icmp .eq off, 3)) (ht : (pc : Int) + off = (pc' : Int)) (kt : x = z → wp d y pc' ls st S Q) (kf : ¬ (x = z) → wp d y (pc + 3) ls st S Q) : wp d y pc ls (.int z :: .int x :: st) S Q := wp_ic hd ht (fun q => kt (of_decide_eq_true q)) (fun q => kf (of_decide_eq_false q))
theorem wp_if_eq {pc' : Nat} {off : Int} {x : Int32} (hd : ab_ins y pc = some (.ifCond .eq off, 3)) (ht : (pc : Int) + off = (pc' : Int)) (kt : x = 0 → wp d y pc' ls st S Q) (kf : ¬ (x = 0) → wp d y (pc + 3) ls st S Q) : wp d y pc ls (.int x :: st) S Q := wp_if hd ht (fun q => kt (of_decide_eq_true q)) (fun q => kf (of_decide_eq_false q))
theorem wp_ic_ne {pc' : Nat} {off : Int} {x z : Int32} (hd : ab_ins y pc = some (.if_icmp .ne off, 3)) (ht : (pc : Int) + off = (pc' : Int)) (kt : x ≠ z → wp d y pc' ls st S Q) (kf : x = z → wp d y (pc + 3) ls st S Q) : wp d y pc ls (.int z :: .int x :: st) S Q := wp_ic hd ht (fun q => kt (of_decide_eq_true q)) (fun q => kf (Decidable.not_not.mp (of_decide_eq_false q)))
theorem wp_if_ne {pc' : Nat} {off : Int} {x : Int32} (hd : ab_ins y pc = some (.ifCond .ne off, 3)) (ht : (pc : Int) + off = (pc' : Int)) (kt : x ≠ 0 → wp d y pc' ls st S Q) (kf : x = 0 → wp d y (pc + 3) ls st S Q) : wp d y pc ls (.int x :: st) S Q := wp_if hd ht (fun q => kt (of_decide_eq_true q)) (fun q => kf (Decidable.not_not.mp (of_decide_eq_false q)))
theorem wp_ic_lt {pc' : Nat} {off : Int} {x z : Int32} (hd : ab_ins y pc = some (.if_icmp .lt off, 3)) (ht : (pc : Int) + off = (pc' : Int)) (kt : x < z → wp d y pc' ls st S Q) (kf : ¬ (x < z) → wp d y (pc + 3) ls st S Q) : wp d y pc ls (.int z :: .int x :: st) S Q := wp_ic hd ht (fun q => kt (of_decide_eq_true q)) (fun q => kf (of_decide_eq_false q))
theorem wp_if_lt {pc' : Nat} {off : Int} {x : Int32} (hd : ab_ins y pc = some (.ifCond .lt off, 3)) (ht : (pc : Int) + off = (pc' : Int)) (kt : x < 0 → wp d y pc' ls st S Q) (kf : ¬ (x < 0) → wp d y (pc + 3) ls st S Q) : wp d y pc ls (.int x :: st) S Q := wp_if hd ht (fun q => kt (of_decide_eq_true q)) (fun q => kf (of_decide_eq_false q))
theorem wp_ic_ge {pc' : Nat} {off : Int} {x z : Int32} (hd : ab_ins y pc = some (.if_icmp .ge off, 3)) (ht : (pc : Int) + off = (pc' : Int)) (kt : z ≤ x → wp d y pc' ls st S Q) (kf : ¬ (z ≤ x) → wp d y (pc + 3) ls st S Q) : wp d y pc ls (.int z :: .int x :: st) S Q := wp_ic hd ht (fun q => kt (of_decide_eq_true q)) (fun q => kf (of_decide_eq_false q))
theorem wp_if_ge {pc' : Nat} {off : Int} {x : Int32} (hd : ab_ins y pc = some (.ifCond .ge off, 3)) (ht : (pc : Int) + off = (pc' : Int)) (kt : 0 ≤ x → wp d y pc' ls st S Q) (kf : ¬ (0 ≤ x) → wp d y (pc + 3) ls st S Q) : wp d y pc ls (.int x :: st) S Q := wp_if hd ht (fun q => kt (of_decide_eq_true q)) (fun q => kf (of_decide_eq_false q))
theorem wp_ic_gt {pc' : Nat} {off : Int} {x z : Int32} (hd : ab_ins y pc = some (.if_icmp .gt off, 3)) (ht : (pc : Int) + off = (pc' : Int)) (kt : z < x → wp d y pc' ls st S Q) (kf : ¬ (z < x) → wp d y (pc + 3) ls st S Q) : wp d y pc ls (.int z :: .int x :: st) S Q := wp_ic hd ht (fun q => kt (of_decide_eq_true q)) (fun q => kf (of_decide_eq_false q))
theorem wp_if_gt {pc' : Nat} {off : Int} {x : Int32} (hd : ab_ins y pc = some (.ifCond .gt off, 3)) (ht : (pc : Int) + off = (pc' : Int)) (kt : 0 < x → wp d y pc' ls st S Q) (kf : ¬ (0 < x) → wp d y (pc + 3) ls st S Q) : wp d y pc ls (.int x :: st) S Q := wp_if hd ht (fun q => kt (of_decide_eq_true q)) (fun q => kf (of_decide_eq_false q))
theorem wp_ic_le {pc' : Nat} {off : Int} {x z : Int32} (hd : ab_ins y pc = some (.if_icmp .le off, 3)) (ht : (pc : Int) + off = (pc' : Int)) (kt : x ≤ z → wp d y pc' ls st S Q) (kf : ¬ (x ≤ z) → wp d y (pc + 3) ls st S Q) : wp d y pc ls (.int z :: .int x :: st) S Q := wp_ic hd ht (fun q => kt (of_decide_eq_true q)) (fun q => kf (of_decide_eq_false q))
theorem wp_if_le {pc' : Nat} {off : Int} {x : Int32} (hd : ab_ins y pc = some (.ifCond .le off, 3)) (ht : (pc : Int) + off = (pc' : Int)) (kt : x ≤ 0 → wp d y pc' ls st S Q) (kf : ¬ (x ≤ 0) → wp d y (pc + 3) ls st S Q) : wp d y pc ls (.int x :: st) S Q := wp_if hd ht (fun q => kt (of_decide_eq_true q)) (fun q => kf (of_decide_eq_false q))
theorem wp_icN_eq {pc' : Nat} {off : Int} {a b : Nat} (hd : ab_ins y pc = some (.if_icmp .eq off, 3)) (ht : (pc : Int) + off = (pc' : Int)) (ha : a < 2 ^ 31) (hb : b < 2 ^ 31) (kt : a = b → wp d y pc' ls st S Q) (kf : a ≠ b → wp d y (pc + 3) ls st S Q) : wp d y pc ls (.int (nI b) :: .int (nI a) :: st) S Q := wp_ic_eq hd ht (fun q => kt ((nI_eq ha hb).mp q)) (fun q => kf (by have h9 : ¬ (a = b) := fun z => q ((nI_eq ha hb).mpr z); omega))
theorem wp_icN_lt {pc' : Nat} {off : Int} {a b : Nat} (hd : ab_ins y pc = some (.if_icmp .lt off, 3)) (ht : (pc : Int) + off = (pc' : Int)) (ha : a < 2 ^ 31) (hb : b < 2 ^ 31) (kt : a < b → wp d y pc' ls st S Q) (kf : b ≤ a → wp d y (pc + 3) ls st S Q) : wp d y pc ls (.int (nI b) :: .int (nI a) :: st) S Q := wp_ic_lt hd ht (fun q => kt ((nI_ltI ha hb).mp q)) (fun q => kf (by have h9 : ¬ (a < b) := fun z => q ((nI_ltI ha hb).mpr z); omega))
theorem wp_icN_ge {pc' : Nat} {off : Int} {a b : Nat} (hd : ab_ins y pc = some (.if_icmp .ge off, 3)) (ht : (pc : Int) + off = (pc' : Int)) (ha : a < 2 ^ 31) (hb : b < 2 ^ 31) (kt : b ≤ a → wp d y pc' ls st S Q) (kf : a < b → wp d y (pc + 3) ls st S Q) : wp d y pc ls (.int (nI b) :: .int (nI a) :: st) S Q := wp_ic_ge hd ht (fun q => kt ((nI_leI hb ha).mp q)) (fun q => kf (by have h9 : ¬ (b ≤ a) := fun z => q ((nI_leI hb ha).mpr z); omega))
theorem wp_icN_gt {pc' : Nat} {off : Int} {a b : Nat} (hd : ab_ins y pc = some (.if_icmp .gt off, 3)) (ht : (pc : Int) + off = (pc' : Int)) (ha : a < 2 ^ 31) (hb : b < 2 ^ 31) (kt : b < a → wp d y pc' ls st S Q) (kf : a ≤ b → wp d y (pc + 3) ls st S Q) : wp d y pc ls (.int (nI b) :: .int (nI a) :: st) S Q := wp_ic_gt hd ht (fun q => kt ((nI_ltI hb ha).mp q)) (fun q => kf (by have h9 : ¬ (b < a) := fun z => q ((nI_ltI hb ha).mpr z); omega))
theorem wp_icN_le {pc' : Nat} {off : Int} {a b : Nat} (hd : ab_ins y pc = some (.if_icmp .le off, 3)) (ht : (pc : Int) + off = (pc' : Int)) (ha : a < 2 ^ 31) (hb : b < 2 ^ 31) (kt : a ≤ b → wp d y pc' ls st S Q) (kf : b < a → wp d y (pc + 3) ls st S Q) : wp d y pc ls (.int (nI b) :: .int (nI a) :: st) S Q := wp_ic_le hd ht (fun q => kt ((nI_leI ha hb).mp q)) (fun q => kf (by have h9 : ¬ (a ≤ b) := fun z => q ((nI_leI ha hb).mpr z); omega))
theorem wp_icN_ne {pc' : Nat} {off : Int} {a b : Nat} (hd : ab_ins y pc = some (.if_icmp .ne off, 3)) (ht : (pc : Int) + off = (pc' : Int)) (ha : a < 2 ^ 31) (hb : b < 2 ^ 31) (kt : a ≠ b → wp d y pc' ls st S Q) (kf : a = b → wp d y (pc + 3) ls st S Q) : wp d y pc ls (.int (nI b) :: .int (nI a) :: st) S Q := wp_ic_ne hd ht (fun q => kt (fun z => q ((nI_eq ha hb).mpr z))) (fun q => kf ((nI_eq ha hb).mp q))
theorem wp_ifB_eq {pc' : Nat} {off : Int} {P : Prop} [Decidable P] (hd : ab_ins y pc = some (.ifCond .eq off, 3)) (ht : (pc : Int) + off = (pc' : Int)) (kt : ¬ P → wp d y pc' ls st S Q) (kf : P → wp d y (pc + 3) ls st S Q) : wp d y pc ls (.int (bi P) :: st) S Q := wp_if_eq hd ht (fun q => kt (bi_eq.mp q)) (fun q => kf (bi_ne.mp q))
theorem wp_ifB_ne {pc' : Nat} {off : Int} {P : Prop} [Decidable P] (hd : ab_ins y pc = some (.ifCond .ne off, 3)) (ht : (pc : Int) + off = (pc' : Int)) (kt : P → wp d y pc' ls st S Q) (kf : ¬ P → wp d y (pc + 3) ls st S Q) : wp d y pc ls (.int (bi P) :: st) S Q := wp_if_ne hd ht (fun q => kt (bi_ne.mp q)) (fun q => kf (bi_eq.mp q))
theorem wp_idivN {a b : Nat} (hd : ab_ins y pc = some (.idiv, 1)) (ha : a < 2 ^ 31) (h0 : 0 < b) (hb : b < 2 ^ 31) (k : wp d y (pc + 1) ls (.int (nI (a / b)) :: st) S Q) : wp d y pc ls (.int (nI b) :: .int (nI a) :: st) S Q := wp_idiv hd (nI_ne0 h0 hb) (pk_div ha h0 hb) k
theorem wp_iremN {a b : Nat} (hd : ab_ins y pc = some (.irem, 1)) (ha : a < 2 ^ 31) (h0 : 0 < b) (hb : b < 2 ^ 31) (k : wp d y (pc + 1) ls (.int (nI (a % b)) :: st) S Q) : wp d y pc ls (.int (nI b) :: .int (nI a) :: st) S Q := wp_irem hd (nI_ne0 h0 hb) (pk_rem ha h0 hb) k
theorem nI_eq0 {a : Nat} (ha : a < 2 ^ 31) : nI a = 0 ↔ a = 0 := by rw [← nI_0]; exact nI_eq ha (by omega)
theorem wp_ifN_eq {pc' : Nat} {off : Int} {a : Nat} (hd : ab_ins y pc = some (.ifCond .eq off, 3)) (ht : (pc : Int) + off = (pc' : Int)) (ha : a < 2 ^ 31) (kt : a = 0 → wp d y pc' ls st S Q) (kf : ¬ a = 0 → wp d y (pc + 3) ls st S Q) : wp d y pc ls (.int (nI a) :: st) S Q := wp_if_eq hd ht (fun q => kt ((nI_eq0 ha).mp q)) (fun q => kf (fun z => q ((nI_eq0 ha).mpr z)))
theorem wp_ifN_ne {pc' : Nat} {off : Int} {a : Nat} (hd : ab_ins y pc = some (.ifCond .ne off, 3)) (ht : (pc : Int) + off = (pc' : Int)) (ha : a < 2 ^ 31) (kt : ¬ a = 0 → wp d y pc' ls st S Q) (kf : a = 0 → wp d y (pc + 3) ls st S Q) : wp d y pc ls (.int (nI a) :: st) S Q := wp_if_ne hd ht (fun q => kt (fun z => q ((nI_eq0 ha).mpr z))) (fun q => kf ((nI_eq0 ha).mp q))
theorem wp_ifN_le {pc' : Nat} {off : Int} {a : Nat} (hd : ab_ins y pc = some (.ifCond .le off, 3)) (ht : (pc : Int) + off = (pc' : Int)) (ha : a < 2 ^ 31) (kt : a = 0 → wp d y pc' ls st S Q) (kf : 0 < a → wp d y (pc + 3) ls st S Q) : wp d y pc ls (.int (nI a) :: st) S Q := wp_if_le hd ht (fun q => kt (by
  by_cases h : a = 0
  · exact h
  · exact absurd q (nI_nle (by omega) ha))) (fun q => kf (by
  by_cases h : a = 0
  · subst h; exact absurd (by rw [nI_0]; exact Int32.le_refl 0) q
  · omega))
theorem wp_ifN_gt {pc' : Nat} {off : Int} {a : Nat} (hd : ab_ins y pc = some (.ifCond .gt off, 3)) (ht : (pc : Int) + off = (pc' : Int)) (ha : a < 2 ^ 31) (kt : 0 < a → wp d y pc' ls st S Q) (kf : a = 0 → wp d y (pc + 3) ls st S Q) : wp d y pc ls (.int (nI a) :: st) S Q := wp_if_gt hd ht (fun q => kt (by
  by_cases h : a = 0
  · subst h; rw [nI_0] at q; exact absurd q (by decide)
  · omega)) (fun q => kf (by
  by_cases h : a = 0
  · exact h
  · exact absurd (by rw [← nI_0]; exact nI_lt (by omega) ha) q))
theorem wp_ifN_lt {pc' : Nat} {off : Int} {a : Nat} (hd : ab_ins y pc = some (.ifCond .lt off, 3)) (ht : (pc : Int) + off = (pc' : Int)) (ha : a < 2 ^ 31) (k : wp d y (pc + 3) ls st S Q) : wp d y pc ls (.int (nI a) :: st) S Q := wp_if_lt hd ht (fun q => absurd q (nI_pos ha)) (fun _ => k)
theorem wp_ifN_ge {pc' : Nat} {off : Int} {a : Nat} (hd : ab_ins y pc = some (.ifCond .ge off, 3)) (ht : (pc : Int) + off = (pc' : Int)) (ha : a < 2 ^ 31) (k : wp d y pc' ls st S Q) : wp d y pc ls (.int (nI a) :: st) S Q := wp_if_ge hd ht (fun _ => k) (fun q => absurd (nI_pos' ha) q)
theorem wp_ts {dd lo hi : Int} {offs : Array Int} {n pc' : Nat} {x : Int32} {off : Int} (hd : ab_ins y pc = some (.tableswitch dd lo hi offs, n)) (h1 : ¬ (x.toInt < lo ∨ hi < x.toInt)) (ho : offs[(x.toInt - lo).toNat]? = some off) (ht : (pc : Int) + off = (pc' : Int)) (k : wp d y pc' ls st S Q) : wp d y pc ls (.int x :: st) S Q := wp_ex hd (by
  show ab_tsw pc dd lo hi offs x ls st (wp_h S) = _
  unfold ab_tsw
  rw [if_neg h1, ho]
  exact wp_jp ht) k
theorem wp_td {dd lo hi : Int} {offs : Array Int} {n pc' : Nat} {x : Int32} (hd : ab_ins y pc = some (.tableswitch dd lo hi offs, n)) (h1 : x.toInt < lo ∨ hi < x.toInt) (ht : (pc : Int) + dd = (pc' : Int)) (k : wp d y pc' ls st S Q) : wp d y pc ls (.int x :: st) S Q := wp_ex hd (by
  show ab_tsw pc dd lo hi offs x ls st (wp_h S) = _
  unfold ab_tsw
  rw [if_pos h1]
  exact wp_jp ht) k
theorem wp_ls {dd : Int} {ps : Array (Int × Int)} {n pc' : Nat} {x : Int32} {off : Int} (hd : ab_ins y pc = some (.lookupswitch dd ps, n)) (h1 : (ps.toList.zip (ps.toList.drop 1)).all (fun (a, next) => a.1 < next.1) = true) (ho : Op.lookupswitch.offset ps.toList dd x.toInt = off) (ht : (pc : Int) + off = (pc' : Int)) (k : wp d y pc' ls st S Q) : wp d y pc ls (.int x :: st) S Q := wp_ex hd (by
  show (if (ps.toList.zip (ps.toList.drop 1)).all (fun (a, next) => a.1 < next.1) = true then ab_jp pc (Op.lookupswitch.offset ps.toList dd x.toInt) ls st (wp_h S) else none) = _
  rw [if_pos h1, ho]
  exact wp_jp ht) k
theorem wp_getfield {o j c f a : Nat} {v : Value} (hd : ab_ins y pc = some (.getfield j, 3)) (ho : ab_own y = o) (hf : ab_fd ab_FL o j = some (c, f)) (hg : ab_gf (wp_h S) c a f = some v) (k : wp d y (pc + 3) ls (v :: st) S Q) : wp d y pc ls (.ref a :: st) S Q := wp_ex hd (by
  show (match ab_fd ab_FL (ab_own y) j, (Value.ref a :: st : List Value) with | some (c, f), .ref k :: r => ab_lo (ab_gf (wp_h S) c k f) (pc + 3) ls r (wp_h S) | _, _ => none) = _
  rw [ho, hf]
  show ab_lo (ab_gf (wp_h S) c a f) (pc + 3) ls st (wp_h S) = _
  rw [hg]
  rfl) k
/-- an object's cell -/
def wp_O (S : wp_S) (a c : Nat) (rs : List (Option Value)) : Prop := c < 9 ∧ a < 10000 ∧ ∃ n, (ab_SH S.1)[a]? = some (c, n, rs)
theorem wp_gf {a c f : Nat} {rs : List (Option Value)} {v : Value} (h : wp_O S a c rs) (hv : (match rs[f]? with | some (some v) => some v | some none => some (.int (S.2 a f)) | none => none) = some v) : ab_gf (wp_h S) c a f = some v := by
  obtain ⟨h1, h2, n, h3⟩ := h
  unfold ab_gf
  rw [if_neg (by omega), if_pos ⟨h1, h2⟩]
  unfold ab_rd wp_h
  dsimp only
  rw [h3]
  dsimp only
  rw [if_pos rfl]
  exact hv
theorem wp_put {o j c f a : Nat} {x : Int32} {ty : FieldType} (hd : ab_ins y pc = some (.putfield j, 3)) (ho : ab_own y = o) (hf : ab_fd ab_FL o j = some (c, f)) (hty : ab_ty c f = some ty) (hfin : ab_fin c f = false) {rs : List (Option Value)} (hO : wp_O S a c rs) (hs : rs[f]? = some none) (hn : narrow ty (.int x) = .int x ∧ fits ty (.int x) = true) (k : wp d y (pc + 3) ls st (wp_u S a f x) Q) : wp d y pc ls (.int x :: .ref a :: st) S Q := wp_ex (S' := wp_u S a f x) hd (by
  obtain ⟨h1, h2, n, h3⟩ := hO
  show (match ab_fd ab_FL (ab_own y) j with | some (c, f) => ab_pf y c f (pc + 3) ls (.int x :: .ref a :: st) (wp_h S) | none => none) = _
  rw [ho, hf]
  show ab_pf y c f (pc + 3) ls (.int x :: .ref a :: st) (wp_h S) = _
  unfold ab_pf
  dsimp only
  rw [hty]
  dsimp only
  rw [if_pos ⟨h1, h2, hn.1, hn.2, Or.inl hfin⟩]
  unfold ab_wr wp_h
  dsimp only
  rw [h3]
  dsimp only
  rw [if_pos rfl, hs]
  rfl) k
theorem wp_putr {o j c f a b : Nat} {ty : FieldType} {S' : wp_S} (hd : ab_ins y pc = some (.putfield j, 3)) (ho : ab_own y = o) (hf : ab_fd ab_FL o j = some (c, f)) (hpf : ab_pf y c f (pc + 3) ls (.ref b :: .ref a :: st) (wp_h S) = some (.inl (pc + 3, ls, st, wp_h S'))) (k : wp d y (pc + 3) ls st S' Q) : wp d y pc ls (.ref b :: .ref a :: st) S Q := wp_ex (S' := S') hd (by
  show (match ab_fd ab_FL (ab_own y) j with | some (c, f) => ab_pf y c f (pc + 3) ls (.ref b :: .ref a :: st) (wp_h S) | none => none) = _
  rw [ho, hf]
  exact hpf) k
theorem wp_getI {o j c f a : Nat} {x : Int32} {rs : List (Option Value)} (hd : ab_ins y pc = some (.getfield j, 3)) (ho : ab_own y = o) (hf : ab_fd ab_FL o j = some (c, f)) (hO : wp_O S a c rs) (hs : rs[f]? = some none) (hv : S.2 a f = x) (k : wp d y (pc + 3) ls (.int x :: st) S Q) : wp d y pc ls (.ref a :: st) S Q := wp_getfield hd ho hf (wp_gf hO (by rw [hs]; dsimp only; rw [hv])) k
theorem wp_getR {o j c f a : Nat} {v : Value} {rs : List (Option Value)} (hd : ab_ins y pc = some (.getfield j, 3)) (ho : ab_own y = o) (hf : ab_fd ab_FL o j = some (c, f)) (hO : wp_O S a c rs) (hs : rs[f]? = some (some v)) (k : wp d y (pc + 3) ls (v :: st) S Q) : wp d y pc ls (.ref a :: st) S Q := wp_getfield hd ho hf (wp_gf hO (by rw [hs])) k
/-- a row of ints -/
def wp_A (S : wp_S) (a n : Nat) : Prop := a < 10000 ∧ ∃ rs, (ab_SH S.1)[a]? = some (100, n, rs)
theorem ab_ix_of {j n : Nat} (h : j < n) (hn : n < 2 ^ 31) : ab_ix (nI j) n = true := decide_eq_true (nI_in h hn)
theorem wp_iaload {a n j : Nat} {x : Int32} (hd : ab_ins y pc = some (.iaload, 1)) (hA : wp_A S a n) (hj : j < n) (hn : n < 2 ^ 31) (hv : S.2 a j = x) (k : wp d y (pc + 1) ls (.int x :: st) S Q) : wp d y pc ls (.int (nI j) :: .ref a :: st) S Q := wp_ex hd (by
  obtain ⟨h2, rs, h3⟩ := hA
  show (match ab_ia none (wp_h S) a with | some q => if ab_ix (nI j) q.1 = true then ab_go (pc + 1) ls (.int (q.2 (nI j).toNatClampNeg) :: st) (wp_h S) else none | none => none) = _
  unfold ab_ia wp_h
  dsimp only
  rw [if_pos h2, h3]
  dsimp only
  rw [if_pos rfl]
  dsimp only
  rw [if_pos (ab_ix_of hj hn), nI_clamp (by omega), hv]
  rfl) k
theorem wp_ialoadC {a n j : Nat} {f : Nat → Int32} {x : Int32} (hd : ab_ins y pc = some (.iaload, 1)) (hA : ab_ia none (wp_h S) a = some (n, f)) (hj : j < n) (hn : n < 2 ^ 31) (hv : f j = x) (k : wp d y (pc + 1) ls (.int x :: st) S Q) : wp d y pc ls (.int (nI j) :: .ref a :: st) S Q := wp_ex hd (by
  show (match ab_ia none (wp_h S) a with | some q => if ab_ix (nI j) q.1 = true then ab_go (pc + 1) ls (.int (q.2 (nI j).toNatClampNeg) :: st) (wp_h S) else none | none => none) = _
  rw [hA]
  dsimp only
  rw [if_pos (ab_ix_of hj hn), nI_clamp (by omega), hv]
  rfl) k
theorem wp_baload {a j : Nat} {b : List Int32} {x : Int32} (hd : ab_ins y pc = some (.baload, 1)) (hA : ab_ba a = some b) (hj : j < b.length) (hn : b.length < 2 ^ 31) (hv : b.getD j 0 = x) (k : wp d y (pc + 1) ls (.int x :: st) S Q) : wp d y pc ls (.int (nI j) :: .ref a :: st) S Q := wp_ex hd (by
  show (match ab_ba a with | some q => if ab_ix (nI j) q.length = true then ab_go (pc + 1) ls (.int (q.getD (nI j).toNatClampNeg 0) :: st) (wp_h S) else none | none => none) = _
  rw [hA]
  dsimp only
  rw [if_pos (ab_ix_of hj hn), nI_clamp (by omega), hv]
  rfl) k
theorem wp_aaload {a j v : Nat} {rs : List (Option Value)} (hd : ab_ins y pc = some (.aaload, 1)) (hA : ab_ra (wp_h S) a = some rs) (hv : rs[j]? = some (some (.ref v))) (hn : rs.length < 2 ^ 31) (k : wp d y (pc + 1) ls (.ref v :: st) S Q) : wp d y pc ls (.int (nI j) :: .ref a :: st) S Q := wp_ex hd (by
  have hj := (List.getElem?_eq_some_iff.mp hv).1
  show (match ab_ra (wp_h S) a with | some q => if ab_ix (nI j) q.length = true then (match q[(nI j).toNatClampNeg]? with | some (some (.ref v)) => ab_go (pc + 1) ls (.ref v :: st) (wp_h S) | _ => none) else none | none => none) = _
  rw [hA]
  dsimp only
  rw [if_pos (ab_ix_of hj hn), nI_clamp (by omega), hv]
  rfl) k
theorem wp_iastore {a n j : Nat} {x : Int32} (hd : ab_ins y pc = some (.iastore, 1)) (hA : wp_A S a n) (hj : j < n) (hn : n < 2 ^ 31) (k : wp d y (pc + 1) ls st (wp_u S a j x) Q) : wp d y pc ls (.int x :: .int (nI j) :: .ref a :: st) S Q := wp_ex (S' := wp_u S a j x) hd (by
  obtain ⟨h2, rs, h3⟩ := hA
  show (if a < 10000 then (match (ab_SH S.1)[a]? with | some (t, m, _) => if t = 100 ∧ ab_ix (nI j) m = true then ab_go (pc + 1) ls st ((wp_h S).1, ab_up S.2 a (nI j).toNatClampNeg x) else none | none => none) else none) = _
  rw [if_pos h2, h3]
  dsimp only
  rw [if_pos ⟨rfl, ab_ix_of hj hn⟩, nI_clamp (by omega)]
  rfl) k
theorem wp_arraylength {a n : Nat} (hd : ab_ins y pc = some (.arraylength, 1)) (hA : ab_al none (wp_h S) a = some n) (k : wp d y (pc + 1) ls (.int (nI n) :: st) S Q) : wp d y pc ls (.ref a :: st) S Q := wp_ex hd (by
  show (match ab_al none (wp_h S) a with | some m => ab_go (pc + 1) ls (.int (Int32.ofNat m) :: st) (wp_h S) | none => none) = _
  rw [hA]
  rfl) k
theorem wp_alA {a n : Nat} (hA : wp_A S a n) : ab_al none (wp_h S) a = some n := by
  obtain ⟨h2, rs, h3⟩ := hA
  have e1 : ab_ra (wp_h S) a = none := by
    unfold ab_ra wp_h
    dsimp only
    rw [if_pos h2, h3]
    dsimp only
    rw [if_neg (by decide)]
  have e2 : ab_ba a = none := by unfold ab_ba; rw [if_neg (by omega)]
  unfold ab_al
  rw [e1, e2]
  dsimp only
  rw [if_neg (by omega)]
  unfold ab_ia wp_h
  dsimp only
  rw [if_pos h2, h3]
  dsimp only
  rw [if_pos rfl]
theorem ab_mi_of {k np ow : Nat} {sg ini : Bool} (h : ab_mi k = some (np, sg, ow, ini)) : ∃ e, ab_MT[k]? = some e ∧ e.2.2.2.2.2.1 = np ∧ e.2.2.2.2.2.2 = sg ∧ e.2.2.2.2.1 = ow ∧ ab_ini k = ini := by
  unfold ab_mi at h
  split at h
  · rename_i e he
    cases h
    exact ⟨e, he, rfl, rfl, rfl, rfl⟩
  · cases h
theorem wp_invS {o j k0 z np ow d0 : Nat} {ini : Bool} {as : List Value} (hd : ab_ins y pc = some (.invokestatic j, 3)) (ho : ab_own y = o) (hl : ab_fd ab_LK o j = some (k0, z)) (hk : k0 < 900) (hm : ab_mi k0 = some (np, true, ow, ini)) (h1 : st.drop np = r) (h2 : (st.take np).reverse = as) (h3 : np ≤ st.length) (hc : ab_cat r = true) (hle : d0 ≤ d) (k : cl d0 k0 as S (wp_K d y (pc + 3) ls r Q)) : wp d y pc ls st S Q := wp_xc (st' := r) hd (by
  obtain ⟨e, he, e1, e2, e3, e4⟩ := ab_mi_of hm
  show ab_inv y 2 j (pc + 3) ls st (wp_h S) = _
  unfold ab_inv
  rw [ho, hl]
  dsimp only
  rw [if_neg (by omega), if_neg (by omega), if_neg (by omega), if_neg (by omega), he]
  dsimp only
  rw [e1, if_pos h3, if_pos e2, h1, h2, if_pos ⟨rfl, hc⟩]) hle k
theorem wp_invV {o j k0 z np ow d0 b : Nat} {as : List Value} (hd : ab_ins y pc = some (.invokevirtual j, 3)) (ho : ab_own y = o) (hl : ab_fd ab_LK o j = some (k0, z)) (hk : k0 < 900) (hm : ab_mi k0 = some (np, false, ow, false)) (h1 : st.drop np = .ref b :: r) (h2 : (st.take np).reverse = as) (h3 : np ≤ st.length) (hc : ab_cat r = true) (hb : ab_isC (wp_h S) b ow = true) (hle : d0 ≤ d) (k : cl d0 k0 (.ref b :: as) S (wp_K d y (pc + 3) ls r Q)) : wp d y pc ls st S Q := wp_xc (st' := r) hd (by
  obtain ⟨e, he, e1, e2, e3, e4⟩ := ab_mi_of hm
  show ab_inv y 0 j (pc + 3) ls st (wp_h S) = _
  unfold ab_inv
  rw [ho, hl]
  dsimp only
  rw [if_neg (by omega), if_neg (by omega), if_neg (by omega), if_neg (by omega), he]
  dsimp only
  rw [e1, if_pos h3, if_neg (by rw [e2]; decide), h1, h2]
  dsimp only
  rw [e3, if_pos ⟨hc, Or.inl ⟨rfl, e4, hb⟩⟩]) hle k
theorem wp_isC {a c : Nat} {rs : List (Option Value)} (h : wp_O S a c rs) : ab_isC (wp_h S) a c = true := by
  obtain ⟨h1, h2, n, h3⟩ := h
  unfold ab_isC wp_h
  dsimp only
  rw [if_neg (by omega), if_pos ⟨h1, h2⟩, h3]
  exact decide_eq_true rfl
theorem wp_mmax {o j z : Nat} {x w v : Int32} (hd : ab_ins y pc = some (.invokestatic j, 3)) (ho : ab_own y = o) (hl : ab_fd ab_LK o j = some (996, z)) (hc : ab_cat st = true) (hv : (if x < w then w else x) = v) (k : wp d y (pc + 3) ls (.int v :: st) S Q) : wp d y pc ls (.int w :: .int x :: st) S Q := wp_ex hd (by
  show ab_inv y 2 j (pc + 3) ls (.int w :: .int x :: st) (wp_h S) = _
  unfold ab_inv
  rw [ho, hl]
  dsimp only
  rw [if_neg (by omega), if_neg (by omega), if_pos rfl, if_pos ⟨rfl, hc⟩, hv]
  rfl) k
theorem wp_mmin {o j z : Nat} {x w v : Int32} (hd : ab_ins y pc = some (.invokestatic j, 3)) (ho : ab_own y = o) (hl : ab_fd ab_LK o j = some (997, z)) (hc : ab_cat st = true) (hv : (if w < x then w else x) = v) (k : wp d y (pc + 3) ls (.int v :: st) S Q) : wp d y pc ls (.int w :: .int x :: st) S Q := wp_ex hd (by
  show ab_inv y 2 j (pc + 3) ls (.int w :: .int x :: st) (wp_h S) = _
  unfold ab_inv
  rw [ho, hl]
  dsimp only
  rw [if_neg (by omega), if_neg (by omega), if_neg (by omega), if_pos rfl, if_pos ⟨rfl, hc⟩, hv]
  rfl) k
def wp_cp (S : wp_S) (s e sp dp n : Nat) : wp_S := (S.1, ab_cp S.2 s e sp dp n)
theorem wp_cp2 (S : wp_S) (s e sp dp n a b : Nat) : (wp_cp S s e sp dp n).2 a b = if a = e ∧ dp ≤ b ∧ b < dp + n then S.2 s (sp + (b - dp)) else S.2 a b := by
  show ab_cp S.2 s e sp dp n a b = _
  unfold ab_cp va_cpy
  by_cases h1 : a = e
  · subst h1
    by_cases h2 : dp ≤ b ∧ b < dp + n
    · rw [if_pos rfl, if_pos h2, if_pos ⟨rfl, h2⟩]
    · rw [if_pos rfl, if_neg h2, if_neg (fun q => h2 q.2)]
  · rw [if_neg h1, if_neg (fun q => h1 q.1)]
theorem wp_acp {o j z s e sp dp n n0 n1 : Nat} (hd : ab_ins y pc = some (.invokestatic j, 3)) (ho : ab_own y = o) (hl : ab_fd ab_LK o j = some (999, z)) (hc : ab_cat st = true) (hA : wp_A S s n0) (hB : wp_A S e n1) (h0 : sp + n ≤ n0) (h1 : dp + n ≤ n1) (h2 : n0 < 2 ^ 30) (h3 : n1 < 2 ^ 30) (k : wp d y (pc + 3) ls st (wp_cp S s e sp dp n) Q) : wp d y pc ls (.int (nI n) :: .int (nI dp) :: .ref e :: .int (nI sp) :: .ref s :: st) S Q := wp_ex (S' := wp_cp S s e sp dp n) hd (by
  obtain ⟨a2, rs, a3⟩ := hA
  obtain ⟨b2, rs', b3⟩ := hB
  show ab_inv y 2 j (pc + 3) ls (.int (nI n) :: .int (nI dp) :: .ref e :: .int (nI sp) :: .ref s :: st) (wp_h S) = _
  unfold ab_inv
  rw [ho, hl]
  dsimp only
  rw [if_neg (by omega), if_pos rfl, if_pos rfl]
  unfold ab_acp wp_h
  dsimp only
  rw [a3, b3]
  dsimp only
  rw [nI_clamp (show sp < 2 ^ 31 by omega), nI_clamp (show dp < 2 ^ 31 by omega), nI_clamp (show n < 2 ^ 31 by omega), if_pos ⟨rfl, rfl, a2, b2, nI_pos (by omega), nI_pos (by omega), nI_pos (by omega), h0, h1, hc⟩]
  rfl) k
theorem wp_ireturn {ty : FieldType} {x : Int32} (hd : ab_ins y pc = some (.ireturn, 1)) (hr : ab_ret y = some ty) (ht : (ty = .int ∨ ty = .boolean ∨ ty = .byte) ∧ narrow ty (.int x) = .int x) (k : Q (some (.int x)) S) : wp d y pc ls [.int x] S Q := wp_xr hd (by
  show ab_rti y [.int x] = _
  unfold ab_rti
  dsimp only
  rw [hr]
  dsimp only
  rw [if_pos ht]) k
theorem wp_reti {x : Int32} (hd : ab_ins y pc = some (.ireturn, 1)) (hr : ab_ret y = some .int) (k : Q (some (.int x)) S) : wp d y pc ls [.int x] S Q := wp_ireturn hd hr ⟨Or.inl rfl, rfl⟩ k
theorem wp_retz {x : Int32} (hd : ab_ins y pc = some (.ireturn, 1)) (hr : ab_ret y = some .boolean) (hx : x = 0 ∨ x = 1) (k : Q (some (.int x)) S) : wp d y pc ls [.int x] S Q := wp_ireturn hd hr ⟨Or.inr (Or.inl rfl), by rcases hx with rfl | rfl <;> rfl⟩ k
theorem wp_lreturn {x : Int64} (hd : ab_ins y pc = some (.lreturn, 1)) (hr : ab_ret y = some .long) (k : Q (some (.long x)) S) : wp d y pc ls [.long x] S Q := wp_xr hd (by
  show ab_rtl y [.long x] = _
  unfold ab_rtl
  dsimp only
  rw [if_pos hr]) k
theorem wp_areturn {x : Nat} (hd : ab_ins y pc = some (.areturn, 1)) (hr : ab_ret y = some (.object "java/lang/String")) (k : Q (some (.ref x)) S) : wp d y pc ls [.ref x] S Q := wp_xr hd (by
  show ab_rta y [.ref x] = _
  unfold ab_rta
  dsimp only
  rw [if_pos hr]) k
theorem wp_return {Q : Option Value → wp_S → Prop} (hd : ab_ins y pc = some (.return_, 1)) (hr : ab_ret y = none) (k : Q none S) : wp d y pc ls [] S Q := wp_xr hd (by
  show ab_rtv y [] = _
  unfold ab_rtv
  dsimp only
  rw [if_pos hr]) k
end WP
section WS
variable {d y pc : Nat} {st : List Value} {S : wp_S} {Q : Option Value → wp_S → Prop}
def ab_nl (o : Option Value) : Bool := match o with
  | some v => decide (v.category = 1)
  | none => true
theorem ab_ki_nl {ls : ab_L} {j : Nat} {o : Option Value} (h : ls[j]? = some o) (hn : ab_nl o = true) : ab_ki ls (j + 1) = ls := by
  simp only [ab_ki]
  rw [h]
  cases o with
  | none => rfl
  | some v =>
    have hc : v.category = 1 := of_decide_eq_true hn
    dsimp only
    rw [if_neg (by rw [hc]; decide)]
theorem ab_s1_0 {l0 : Option Value} {t : ab_L} {V : Value} : ab_s1 (l0 :: t) 0 V = some (some V :: t) := by
  unfold ab_s1
  rw [if_pos (by simp), show ab_ki (l0 :: t) 0 = l0 :: t from rfl]
  rfl
theorem wp_isto0 {l0 : Option Value} {t : ab_L} {x : Int32} (hd : ab_ins y pc = some (.istore 0, 2)) (k : wp d y (pc + 2) (some (.int x) :: t) st S Q) : wp d y pc (l0 :: t) (.int x :: st) S Q := wp_istore hd (ab_s1_0) k
theorem wp_iston0 {l0 : Option Value} {t : ab_L} {x : Int32} (hd : ab_ins y pc = some (.istore_n 0, 1)) (k : wp d y (pc + 1) (some (.int x) :: t) st S Q) : wp d y pc (l0 :: t) (.int x :: st) S Q := wp_istore_n hd rfl (ab_s1_0) k
theorem wp_asto0 {l0 : Option Value} {t : ab_L} {x : Nat} (hd : ab_ins y pc = some (.astore 0, 2)) (k : wp d y (pc + 2) (some (.ref x) :: t) st S Q) : wp d y pc (l0 :: t) (.ref x :: st) S Q := wp_astore hd (ab_s1_0) k
theorem wp_aston0 {l0 : Option Value} {t : ab_L} {x : Nat} (hd : ab_ins y pc = some (.astore_n 0, 1)) (k : wp d y (pc + 1) (some (.ref x) :: t) st S Q) : wp d y pc (l0 :: t) (.ref x :: st) S Q := wp_astore_n hd rfl (ab_s1_0) k
theorem wp_iinc0 {t : ab_L} {z : Int} {x v : Int32} (hd : ab_ins y pc = some (.iinc 0 z, 3)) (he : x + Int32.ofInt z = v) (k : wp d y (pc + 3) (some (.int v) :: t) st S Q) : wp d y pc (some (.int x) :: t) st S Q := wp_iinc hd rfl he (ab_s1_0) k
theorem ab_s2_0 {l0 l1 : Option Value} {t : ab_L} {x : Int64} : ab_s2 (l0 :: l1 :: t) 0 (.long x) = some (some (.long x) :: none :: t) := by
  unfold ab_s2
  rw [if_pos (by simp), show ab_ki (l0 :: l1 :: t) 0 = l0 :: l1 :: t from rfl]
  rfl
theorem wp_lsto0 {l0 l1 : Option Value} {t : ab_L} {x : Int64} (hd : ab_ins y pc = some (.lstore 0, 2)) (k : wp d y (pc + 2) (some (.long x) :: none :: t) st S Q) : wp d y pc (l0 :: l1 :: t) (.long x :: st) S Q := wp_lstore hd (ab_s2_0) k
theorem wp_lston0 {l0 l1 : Option Value} {t : ab_L} {x : Int64} (hd : ab_ins y pc = some (.lstore_n 0, 1)) (k : wp d y (pc + 1) (some (.long x) :: none :: t) st S Q) : wp d y pc (l0 :: l1 :: t) (.long x :: st) S Q := wp_lstore_n hd rfl (ab_s2_0) k
theorem ab_s1_1 {l0 l1 : Option Value} {t : ab_L} {V : Value} (hn : ab_nl l0 = true) : ab_s1 (l0 :: l1 :: t) 1 V = some (l0 :: some V :: t) := by
  unfold ab_s1
  rw [if_pos (by simp), show ab_ki (l0 :: l1 :: t) 1 = l0 :: l1 :: t from ab_ki_nl (j := 0) (o := l0) rfl hn]
  rfl
theorem wp_isto1 {l0 l1 : Option Value} {t : ab_L} {x : Int32} (hd : ab_ins y pc = some (.istore 1, 2)) (hn : ab_nl l0 = true) (k : wp d y (pc + 2) (l0 :: some (.int x) :: t) st S Q) : wp d y pc (l0 :: l1 :: t) (.int x :: st) S Q := wp_istore hd (ab_s1_1 hn) k
theorem wp_iston1 {l0 l1 : Option Value} {t : ab_L} {x : Int32} (hd : ab_ins y pc = some (.istore_n 1, 1)) (hn : ab_nl l0 = true) (k : wp d y (pc + 1) (l0 :: some (.int x) :: t) st S Q) : wp d y pc (l0 :: l1 :: t) (.int x :: st) S Q := wp_istore_n hd rfl (ab_s1_1 hn) k
theorem wp_asto1 {l0 l1 : Option Value} {t : ab_L} {x : Nat} (hd : ab_ins y pc = some (.astore 1, 2)) (hn : ab_nl l0 = true) (k : wp d y (pc + 2) (l0 :: some (.ref x) :: t) st S Q) : wp d y pc (l0 :: l1 :: t) (.ref x :: st) S Q := wp_astore hd (ab_s1_1 hn) k
theorem wp_aston1 {l0 l1 : Option Value} {t : ab_L} {x : Nat} (hd : ab_ins y pc = some (.astore_n 1, 1)) (hn : ab_nl l0 = true) (k : wp d y (pc + 1) (l0 :: some (.ref x) :: t) st S Q) : wp d y pc (l0 :: l1 :: t) (.ref x :: st) S Q := wp_astore_n hd rfl (ab_s1_1 hn) k
theorem wp_iinc1 {l0 : Option Value} {t : ab_L} {z : Int} {x v : Int32} (hd : ab_ins y pc = some (.iinc 1 z, 3)) (hn : ab_nl l0 = true) (he : x + Int32.ofInt z = v) (k : wp d y (pc + 3) (l0 :: some (.int v) :: t) st S Q) : wp d y pc (l0 :: some (.int x) :: t) st S Q := wp_iinc hd rfl he (ab_s1_1 hn) k
theorem ab_s2_1 {l0 l1 l2 : Option Value} {t : ab_L} {x : Int64} (hn : ab_nl l0 = true) : ab_s2 (l0 :: l1 :: l2 :: t) 1 (.long x) = some (l0 :: some (.long x) :: none :: t) := by
  unfold ab_s2
  rw [if_pos (by simp), show ab_ki (l0 :: l1 :: l2 :: t) 1 = l0 :: l1 :: l2 :: t from ab_ki_nl (j := 0) (o := l0) rfl hn]
  rfl
theorem wp_lsto1 {l0 l1 l2 : Option Value} {t : ab_L} {x : Int64} (hd : ab_ins y pc = some (.lstore 1, 2)) (hn : ab_nl l0 = true) (k : wp d y (pc + 2) (l0 :: some (.long x) :: none :: t) st S Q) : wp d y pc (l0 :: l1 :: l2 :: t) (.long x :: st) S Q := wp_lstore hd (ab_s2_1 hn) k
theorem wp_lston1 {l0 l1 l2 : Option Value} {t : ab_L} {x : Int64} (hd : ab_ins y pc = some (.lstore_n 1, 1)) (hn : ab_nl l0 = true) (k : wp d y (pc + 1) (l0 :: some (.long x) :: none :: t) st S Q) : wp d y pc (l0 :: l1 :: l2 :: t) (.long x :: st) S Q := wp_lstore_n hd rfl (ab_s2_1 hn) k
theorem ab_s1_2 {l0 l1 l2 : Option Value} {t : ab_L} {V : Value} (hn : ab_nl l1 = true) : ab_s1 (l0 :: l1 :: l2 :: t) 2 V = some (l0 :: l1 :: some V :: t) := by
  unfold ab_s1
  rw [if_pos (by simp), show ab_ki (l0 :: l1 :: l2 :: t) 2 = l0 :: l1 :: l2 :: t from ab_ki_nl (j := 1) (o := l1) rfl hn]
  rfl
theorem wp_isto2 {l0 l1 l2 : Option Value} {t : ab_L} {x : Int32} (hd : ab_ins y pc = some (.istore 2, 2)) (hn : ab_nl l1 = true) (k : wp d y (pc + 2) (l0 :: l1 :: some (.int x) :: t) st S Q) : wp d y pc (l0 :: l1 :: l2 :: t) (.int x :: st) S Q := wp_istore hd (ab_s1_2 hn) k
theorem wp_iston2 {l0 l1 l2 : Option Value} {t : ab_L} {x : Int32} (hd : ab_ins y pc = some (.istore_n 2, 1)) (hn : ab_nl l1 = true) (k : wp d y (pc + 1) (l0 :: l1 :: some (.int x) :: t) st S Q) : wp d y pc (l0 :: l1 :: l2 :: t) (.int x :: st) S Q := wp_istore_n hd rfl (ab_s1_2 hn) k
theorem wp_asto2 {l0 l1 l2 : Option Value} {t : ab_L} {x : Nat} (hd : ab_ins y pc = some (.astore 2, 2)) (hn : ab_nl l1 = true) (k : wp d y (pc + 2) (l0 :: l1 :: some (.ref x) :: t) st S Q) : wp d y pc (l0 :: l1 :: l2 :: t) (.ref x :: st) S Q := wp_astore hd (ab_s1_2 hn) k
theorem wp_aston2 {l0 l1 l2 : Option Value} {t : ab_L} {x : Nat} (hd : ab_ins y pc = some (.astore_n 2, 1)) (hn : ab_nl l1 = true) (k : wp d y (pc + 1) (l0 :: l1 :: some (.ref x) :: t) st S Q) : wp d y pc (l0 :: l1 :: l2 :: t) (.ref x :: st) S Q := wp_astore_n hd rfl (ab_s1_2 hn) k
theorem wp_iinc2 {l0 l1 : Option Value} {t : ab_L} {z : Int} {x v : Int32} (hd : ab_ins y pc = some (.iinc 2 z, 3)) (hn : ab_nl l1 = true) (he : x + Int32.ofInt z = v) (k : wp d y (pc + 3) (l0 :: l1 :: some (.int v) :: t) st S Q) : wp d y pc (l0 :: l1 :: some (.int x) :: t) st S Q := wp_iinc hd rfl he (ab_s1_2 hn) k
theorem ab_s2_2 {l0 l1 l2 l3 : Option Value} {t : ab_L} {x : Int64} (hn : ab_nl l1 = true) : ab_s2 (l0 :: l1 :: l2 :: l3 :: t) 2 (.long x) = some (l0 :: l1 :: some (.long x) :: none :: t) := by
  unfold ab_s2
  rw [if_pos (by simp), show ab_ki (l0 :: l1 :: l2 :: l3 :: t) 2 = l0 :: l1 :: l2 :: l3 :: t from ab_ki_nl (j := 1) (o := l1) rfl hn]
  rfl
theorem wp_lsto2 {l0 l1 l2 l3 : Option Value} {t : ab_L} {x : Int64} (hd : ab_ins y pc = some (.lstore 2, 2)) (hn : ab_nl l1 = true) (k : wp d y (pc + 2) (l0 :: l1 :: some (.long x) :: none :: t) st S Q) : wp d y pc (l0 :: l1 :: l2 :: l3 :: t) (.long x :: st) S Q := wp_lstore hd (ab_s2_2 hn) k
theorem wp_lston2 {l0 l1 l2 l3 : Option Value} {t : ab_L} {x : Int64} (hd : ab_ins y pc = some (.lstore_n 2, 1)) (hn : ab_nl l1 = true) (k : wp d y (pc + 1) (l0 :: l1 :: some (.long x) :: none :: t) st S Q) : wp d y pc (l0 :: l1 :: l2 :: l3 :: t) (.long x :: st) S Q := wp_lstore_n hd rfl (ab_s2_2 hn) k
theorem ab_s1_3 {l0 l1 l2 l3 : Option Value} {t : ab_L} {V : Value} (hn : ab_nl l2 = true) : ab_s1 (l0 :: l1 :: l2 :: l3 :: t) 3 V = some (l0 :: l1 :: l2 :: some V :: t) := by
  unfold ab_s1
  rw [if_pos (by simp), show ab_ki (l0 :: l1 :: l2 :: l3 :: t) 3 = l0 :: l1 :: l2 :: l3 :: t from ab_ki_nl (j := 2) (o := l2) rfl hn]
  rfl
theorem wp_isto3 {l0 l1 l2 l3 : Option Value} {t : ab_L} {x : Int32} (hd : ab_ins y pc = some (.istore 3, 2)) (hn : ab_nl l2 = true) (k : wp d y (pc + 2) (l0 :: l1 :: l2 :: some (.int x) :: t) st S Q) : wp d y pc (l0 :: l1 :: l2 :: l3 :: t) (.int x :: st) S Q := wp_istore hd (ab_s1_3 hn) k
theorem wp_iston3 {l0 l1 l2 l3 : Option Value} {t : ab_L} {x : Int32} (hd : ab_ins y pc = some (.istore_n 3, 1)) (hn : ab_nl l2 = true) (k : wp d y (pc + 1) (l0 :: l1 :: l2 :: some (.int x) :: t) st S Q) : wp d y pc (l0 :: l1 :: l2 :: l3 :: t) (.int x :: st) S Q := wp_istore_n hd rfl (ab_s1_3 hn) k
theorem wp_asto3 {l0 l1 l2 l3 : Option Value} {t : ab_L} {x : Nat} (hd : ab_ins y pc = some (.astore 3, 2)) (hn : ab_nl l2 = true) (k : wp d y (pc + 2) (l0 :: l1 :: l2 :: some (.ref x) :: t) st S Q) : wp d y pc (l0 :: l1 :: l2 :: l3 :: t) (.ref x :: st) S Q := wp_astore hd (ab_s1_3 hn) k
theorem wp_aston3 {l0 l1 l2 l3 : Option Value} {t : ab_L} {x : Nat} (hd : ab_ins y pc = some (.astore_n 3, 1)) (hn : ab_nl l2 = true) (k : wp d y (pc + 1) (l0 :: l1 :: l2 :: some (.ref x) :: t) st S Q) : wp d y pc (l0 :: l1 :: l2 :: l3 :: t) (.ref x :: st) S Q := wp_astore_n hd rfl (ab_s1_3 hn) k
theorem wp_iinc3 {l0 l1 l2 : Option Value} {t : ab_L} {z : Int} {x v : Int32} (hd : ab_ins y pc = some (.iinc 3 z, 3)) (hn : ab_nl l2 = true) (he : x + Int32.ofInt z = v) (k : wp d y (pc + 3) (l0 :: l1 :: l2 :: some (.int v) :: t) st S Q) : wp d y pc (l0 :: l1 :: l2 :: some (.int x) :: t) st S Q := wp_iinc hd rfl he (ab_s1_3 hn) k
theorem ab_s2_3 {l0 l1 l2 l3 l4 : Option Value} {t : ab_L} {x : Int64} (hn : ab_nl l2 = true) : ab_s2 (l0 :: l1 :: l2 :: l3 :: l4 :: t) 3 (.long x) = some (l0 :: l1 :: l2 :: some (.long x) :: none :: t) := by
  unfold ab_s2
  rw [if_pos (by simp), show ab_ki (l0 :: l1 :: l2 :: l3 :: l4 :: t) 3 = l0 :: l1 :: l2 :: l3 :: l4 :: t from ab_ki_nl (j := 2) (o := l2) rfl hn]
  rfl
theorem wp_lsto3 {l0 l1 l2 l3 l4 : Option Value} {t : ab_L} {x : Int64} (hd : ab_ins y pc = some (.lstore 3, 2)) (hn : ab_nl l2 = true) (k : wp d y (pc + 2) (l0 :: l1 :: l2 :: some (.long x) :: none :: t) st S Q) : wp d y pc (l0 :: l1 :: l2 :: l3 :: l4 :: t) (.long x :: st) S Q := wp_lstore hd (ab_s2_3 hn) k
theorem wp_lston3 {l0 l1 l2 l3 l4 : Option Value} {t : ab_L} {x : Int64} (hd : ab_ins y pc = some (.lstore_n 3, 1)) (hn : ab_nl l2 = true) (k : wp d y (pc + 1) (l0 :: l1 :: l2 :: some (.long x) :: none :: t) st S Q) : wp d y pc (l0 :: l1 :: l2 :: l3 :: l4 :: t) (.long x :: st) S Q := wp_lstore_n hd rfl (ab_s2_3 hn) k
theorem ab_s1_4 {l0 l1 l2 l3 l4 : Option Value} {t : ab_L} {V : Value} (hn : ab_nl l3 = true) : ab_s1 (l0 :: l1 :: l2 :: l3 :: l4 :: t) 4 V = some (l0 :: l1 :: l2 :: l3 :: some V :: t) := by
  unfold ab_s1
  rw [if_pos (by simp), show ab_ki (l0 :: l1 :: l2 :: l3 :: l4 :: t) 4 = l0 :: l1 :: l2 :: l3 :: l4 :: t from ab_ki_nl (j := 3) (o := l3) rfl hn]
  rfl
theorem wp_isto4 {l0 l1 l2 l3 l4 : Option Value} {t : ab_L} {x : Int32} (hd : ab_ins y pc = some (.istore 4, 2)) (hn : ab_nl l3 = true) (k : wp d y (pc + 2) (l0 :: l1 :: l2 :: l3 :: some (.int x) :: t) st S Q) : wp d y pc (l0 :: l1 :: l2 :: l3 :: l4 :: t) (.int x :: st) S Q := wp_istore hd (ab_s1_4 hn) k
theorem wp_asto4 {l0 l1 l2 l3 l4 : Option Value} {t : ab_L} {x : Nat} (hd : ab_ins y pc = some (.astore 4, 2)) (hn : ab_nl l3 = true) (k : wp d y (pc + 2) (l0 :: l1 :: l2 :: l3 :: some (.ref x) :: t) st S Q) : wp d y pc (l0 :: l1 :: l2 :: l3 :: l4 :: t) (.ref x :: st) S Q := wp_astore hd (ab_s1_4 hn) k
theorem wp_iinc4 {l0 l1 l2 l3 : Option Value} {t : ab_L} {z : Int} {x v : Int32} (hd : ab_ins y pc = some (.iinc 4 z, 3)) (hn : ab_nl l3 = true) (he : x + Int32.ofInt z = v) (k : wp d y (pc + 3) (l0 :: l1 :: l2 :: l3 :: some (.int v) :: t) st S Q) : wp d y pc (l0 :: l1 :: l2 :: l3 :: some (.int x) :: t) st S Q := wp_iinc hd rfl he (ab_s1_4 hn) k
theorem ab_s2_4 {l0 l1 l2 l3 l4 l5 : Option Value} {t : ab_L} {x : Int64} (hn : ab_nl l3 = true) : ab_s2 (l0 :: l1 :: l2 :: l3 :: l4 :: l5 :: t) 4 (.long x) = some (l0 :: l1 :: l2 :: l3 :: some (.long x) :: none :: t) := by
  unfold ab_s2
  rw [if_pos (by simp), show ab_ki (l0 :: l1 :: l2 :: l3 :: l4 :: l5 :: t) 4 = l0 :: l1 :: l2 :: l3 :: l4 :: l5 :: t from ab_ki_nl (j := 3) (o := l3) rfl hn]
  rfl
theorem wp_lsto4 {l0 l1 l2 l3 l4 l5 : Option Value} {t : ab_L} {x : Int64} (hd : ab_ins y pc = some (.lstore 4, 2)) (hn : ab_nl l3 = true) (k : wp d y (pc + 2) (l0 :: l1 :: l2 :: l3 :: some (.long x) :: none :: t) st S Q) : wp d y pc (l0 :: l1 :: l2 :: l3 :: l4 :: l5 :: t) (.long x :: st) S Q := wp_lstore hd (ab_s2_4 hn) k
theorem ab_s1_5 {l0 l1 l2 l3 l4 l5 : Option Value} {t : ab_L} {V : Value} (hn : ab_nl l4 = true) : ab_s1 (l0 :: l1 :: l2 :: l3 :: l4 :: l5 :: t) 5 V = some (l0 :: l1 :: l2 :: l3 :: l4 :: some V :: t) := by
  unfold ab_s1
  rw [if_pos (by simp), show ab_ki (l0 :: l1 :: l2 :: l3 :: l4 :: l5 :: t) 5 = l0 :: l1 :: l2 :: l3 :: l4 :: l5 :: t from ab_ki_nl (j := 4) (o := l4) rfl hn]
  rfl
theorem wp_isto5 {l0 l1 l2 l3 l4 l5 : Option Value} {t : ab_L} {x : Int32} (hd : ab_ins y pc = some (.istore 5, 2)) (hn : ab_nl l4 = true) (k : wp d y (pc + 2) (l0 :: l1 :: l2 :: l3 :: l4 :: some (.int x) :: t) st S Q) : wp d y pc (l0 :: l1 :: l2 :: l3 :: l4 :: l5 :: t) (.int x :: st) S Q := wp_istore hd (ab_s1_5 hn) k
theorem wp_asto5 {l0 l1 l2 l3 l4 l5 : Option Value} {t : ab_L} {x : Nat} (hd : ab_ins y pc = some (.astore 5, 2)) (hn : ab_nl l4 = true) (k : wp d y (pc + 2) (l0 :: l1 :: l2 :: l3 :: l4 :: some (.ref x) :: t) st S Q) : wp d y pc (l0 :: l1 :: l2 :: l3 :: l4 :: l5 :: t) (.ref x :: st) S Q := wp_astore hd (ab_s1_5 hn) k
theorem wp_iinc5 {l0 l1 l2 l3 l4 : Option Value} {t : ab_L} {z : Int} {x v : Int32} (hd : ab_ins y pc = some (.iinc 5 z, 3)) (hn : ab_nl l4 = true) (he : x + Int32.ofInt z = v) (k : wp d y (pc + 3) (l0 :: l1 :: l2 :: l3 :: l4 :: some (.int v) :: t) st S Q) : wp d y pc (l0 :: l1 :: l2 :: l3 :: l4 :: some (.int x) :: t) st S Q := wp_iinc hd rfl he (ab_s1_5 hn) k
theorem ab_s2_5 {l0 l1 l2 l3 l4 l5 l6 : Option Value} {t : ab_L} {x : Int64} (hn : ab_nl l4 = true) : ab_s2 (l0 :: l1 :: l2 :: l3 :: l4 :: l5 :: l6 :: t) 5 (.long x) = some (l0 :: l1 :: l2 :: l3 :: l4 :: some (.long x) :: none :: t) := by
  unfold ab_s2
  rw [if_pos (by simp), show ab_ki (l0 :: l1 :: l2 :: l3 :: l4 :: l5 :: l6 :: t) 5 = l0 :: l1 :: l2 :: l3 :: l4 :: l5 :: l6 :: t from ab_ki_nl (j := 4) (o := l4) rfl hn]
  rfl
theorem wp_lsto5 {l0 l1 l2 l3 l4 l5 l6 : Option Value} {t : ab_L} {x : Int64} (hd : ab_ins y pc = some (.lstore 5, 2)) (hn : ab_nl l4 = true) (k : wp d y (pc + 2) (l0 :: l1 :: l2 :: l3 :: l4 :: some (.long x) :: none :: t) st S Q) : wp d y pc (l0 :: l1 :: l2 :: l3 :: l4 :: l5 :: l6 :: t) (.long x :: st) S Q := wp_lstore hd (ab_s2_5 hn) k
theorem ab_s1_6 {l0 l1 l2 l3 l4 l5 l6 : Option Value} {t : ab_L} {V : Value} (hn : ab_nl l5 = true) : ab_s1 (l0 :: l1 :: l2 :: l3 :: l4 :: l5 :: l6 :: t) 6 V = some (l0 :: l1 :: l2 :: l3 :: l4 :: l5 :: some V :: t) := by
  unfold ab_s1
  rw [if_pos (by simp), show ab_ki (l0 :: l1 :: l2 :: l3 :: l4 :: l5 :: l6 :: t) 6 = l0 :: l1 :: l2 :: l3 :: l4 :: l5 :: l6 :: t from ab_ki_nl (j := 5) (o := l5) rfl hn]
  rfl
theorem wp_isto6 {l0 l1 l2 l3 l4 l5 l6 : Option Value} {t : ab_L} {x : Int32} (hd : ab_ins y pc = some (.istore 6, 2)) (hn : ab_nl l5 = true) (k : wp d y (pc + 2) (l0 :: l1 :: l2 :: l3 :: l4 :: l5 :: some (.int x) :: t) st S Q) : wp d y pc (l0 :: l1 :: l2 :: l3 :: l4 :: l5 :: l6 :: t) (.int x :: st) S Q := wp_istore hd (ab_s1_6 hn) k
theorem wp_asto6 {l0 l1 l2 l3 l4 l5 l6 : Option Value} {t : ab_L} {x : Nat} (hd : ab_ins y pc = some (.astore 6, 2)) (hn : ab_nl l5 = true) (k : wp d y (pc + 2) (l0 :: l1 :: l2 :: l3 :: l4 :: l5 :: some (.ref x) :: t) st S Q) : wp d y pc (l0 :: l1 :: l2 :: l3 :: l4 :: l5 :: l6 :: t) (.ref x :: st) S Q := wp_astore hd (ab_s1_6 hn) k
theorem wp_iinc6 {l0 l1 l2 l3 l4 l5 : Option Value} {t : ab_L} {z : Int} {x v : Int32} (hd : ab_ins y pc = some (.iinc 6 z, 3)) (hn : ab_nl l5 = true) (he : x + Int32.ofInt z = v) (k : wp d y (pc + 3) (l0 :: l1 :: l2 :: l3 :: l4 :: l5 :: some (.int v) :: t) st S Q) : wp d y pc (l0 :: l1 :: l2 :: l3 :: l4 :: l5 :: some (.int x) :: t) st S Q := wp_iinc hd rfl he (ab_s1_6 hn) k
theorem ab_s2_6 {l0 l1 l2 l3 l4 l5 l6 l7 : Option Value} {t : ab_L} {x : Int64} (hn : ab_nl l5 = true) : ab_s2 (l0 :: l1 :: l2 :: l3 :: l4 :: l5 :: l6 :: l7 :: t) 6 (.long x) = some (l0 :: l1 :: l2 :: l3 :: l4 :: l5 :: some (.long x) :: none :: t) := by
  unfold ab_s2
  rw [if_pos (by simp), show ab_ki (l0 :: l1 :: l2 :: l3 :: l4 :: l5 :: l6 :: l7 :: t) 6 = l0 :: l1 :: l2 :: l3 :: l4 :: l5 :: l6 :: l7 :: t from ab_ki_nl (j := 5) (o := l5) rfl hn]
  rfl
theorem wp_lsto6 {l0 l1 l2 l3 l4 l5 l6 l7 : Option Value} {t : ab_L} {x : Int64} (hd : ab_ins y pc = some (.lstore 6, 2)) (hn : ab_nl l5 = true) (k : wp d y (pc + 2) (l0 :: l1 :: l2 :: l3 :: l4 :: l5 :: some (.long x) :: none :: t) st S Q) : wp d y pc (l0 :: l1 :: l2 :: l3 :: l4 :: l5 :: l6 :: l7 :: t) (.long x :: st) S Q := wp_lstore hd (ab_s2_6 hn) k
theorem ab_s1_7 {l0 l1 l2 l3 l4 l5 l6 l7 : Option Value} {t : ab_L} {V : Value} (hn : ab_nl l6 = true) : ab_s1 (l0 :: l1 :: l2 :: l3 :: l4 :: l5 :: l6 :: l7 :: t) 7 V = some (l0 :: l1 :: l2 :: l3 :: l4 :: l5 :: l6 :: some V :: t) := by
  unfold ab_s1
  rw [if_pos (by simp), show ab_ki (l0 :: l1 :: l2 :: l3 :: l4 :: l5 :: l6 :: l7 :: t) 7 = l0 :: l1 :: l2 :: l3 :: l4 :: l5 :: l6 :: l7 :: t from ab_ki_nl (j := 6) (o := l6) rfl hn]
  rfl
theorem wp_isto7 {l0 l1 l2 l3 l4 l5 l6 l7 : Option Value} {t : ab_L} {x : Int32} (hd : ab_ins y pc = some (.istore 7, 2)) (hn : ab_nl l6 = true) (k : wp d y (pc + 2) (l0 :: l1 :: l2 :: l3 :: l4 :: l5 :: l6 :: some (.int x) :: t) st S Q) : wp d y pc (l0 :: l1 :: l2 :: l3 :: l4 :: l5 :: l6 :: l7 :: t) (.int x :: st) S Q := wp_istore hd (ab_s1_7 hn) k
theorem wp_asto7 {l0 l1 l2 l3 l4 l5 l6 l7 : Option Value} {t : ab_L} {x : Nat} (hd : ab_ins y pc = some (.astore 7, 2)) (hn : ab_nl l6 = true) (k : wp d y (pc + 2) (l0 :: l1 :: l2 :: l3 :: l4 :: l5 :: l6 :: some (.ref x) :: t) st S Q) : wp d y pc (l0 :: l1 :: l2 :: l3 :: l4 :: l5 :: l6 :: l7 :: t) (.ref x :: st) S Q := wp_astore hd (ab_s1_7 hn) k
theorem wp_iinc7 {l0 l1 l2 l3 l4 l5 l6 : Option Value} {t : ab_L} {z : Int} {x v : Int32} (hd : ab_ins y pc = some (.iinc 7 z, 3)) (hn : ab_nl l6 = true) (he : x + Int32.ofInt z = v) (k : wp d y (pc + 3) (l0 :: l1 :: l2 :: l3 :: l4 :: l5 :: l6 :: some (.int v) :: t) st S Q) : wp d y pc (l0 :: l1 :: l2 :: l3 :: l4 :: l5 :: l6 :: some (.int x) :: t) st S Q := wp_iinc hd rfl he (ab_s1_7 hn) k
theorem ab_s2_7 {l0 l1 l2 l3 l4 l5 l6 l7 l8 : Option Value} {t : ab_L} {x : Int64} (hn : ab_nl l6 = true) : ab_s2 (l0 :: l1 :: l2 :: l3 :: l4 :: l5 :: l6 :: l7 :: l8 :: t) 7 (.long x) = some (l0 :: l1 :: l2 :: l3 :: l4 :: l5 :: l6 :: some (.long x) :: none :: t) := by
  unfold ab_s2
  rw [if_pos (by simp), show ab_ki (l0 :: l1 :: l2 :: l3 :: l4 :: l5 :: l6 :: l7 :: l8 :: t) 7 = l0 :: l1 :: l2 :: l3 :: l4 :: l5 :: l6 :: l7 :: l8 :: t from ab_ki_nl (j := 6) (o := l6) rfl hn]
  rfl
theorem wp_lsto7 {l0 l1 l2 l3 l4 l5 l6 l7 l8 : Option Value} {t : ab_L} {x : Int64} (hd : ab_ins y pc = some (.lstore 7, 2)) (hn : ab_nl l6 = true) (k : wp d y (pc + 2) (l0 :: l1 :: l2 :: l3 :: l4 :: l5 :: l6 :: some (.long x) :: none :: t) st S Q) : wp d y pc (l0 :: l1 :: l2 :: l3 :: l4 :: l5 :: l6 :: l7 :: l8 :: t) (.long x :: st) S Q := wp_lstore hd (ab_s2_7 hn) k
theorem ab_s1_8 {l0 l1 l2 l3 l4 l5 l6 l7 l8 : Option Value} {t : ab_L} {V : Value} (hn : ab_nl l7 = true) : ab_s1 (l0 :: l1 :: l2 :: l3 :: l4 :: l5 :: l6 :: l7 :: l8 :: t) 8 V = some (l0 :: l1 :: l2 :: l3 :: l4 :: l5 :: l6 :: l7 :: some V :: t) := by
  unfold ab_s1
  rw [if_pos (by simp), show ab_ki (l0 :: l1 :: l2 :: l3 :: l4 :: l5 :: l6 :: l7 :: l8 :: t) 8 = l0 :: l1 :: l2 :: l3 :: l4 :: l5 :: l6 :: l7 :: l8 :: t from ab_ki_nl (j := 7) (o := l7) rfl hn]
  rfl
theorem wp_isto8 {l0 l1 l2 l3 l4 l5 l6 l7 l8 : Option Value} {t : ab_L} {x : Int32} (hd : ab_ins y pc = some (.istore 8, 2)) (hn : ab_nl l7 = true) (k : wp d y (pc + 2) (l0 :: l1 :: l2 :: l3 :: l4 :: l5 :: l6 :: l7 :: some (.int x) :: t) st S Q) : wp d y pc (l0 :: l1 :: l2 :: l3 :: l4 :: l5 :: l6 :: l7 :: l8 :: t) (.int x :: st) S Q := wp_istore hd (ab_s1_8 hn) k
theorem wp_asto8 {l0 l1 l2 l3 l4 l5 l6 l7 l8 : Option Value} {t : ab_L} {x : Nat} (hd : ab_ins y pc = some (.astore 8, 2)) (hn : ab_nl l7 = true) (k : wp d y (pc + 2) (l0 :: l1 :: l2 :: l3 :: l4 :: l5 :: l6 :: l7 :: some (.ref x) :: t) st S Q) : wp d y pc (l0 :: l1 :: l2 :: l3 :: l4 :: l5 :: l6 :: l7 :: l8 :: t) (.ref x :: st) S Q := wp_astore hd (ab_s1_8 hn) k
theorem wp_iinc8 {l0 l1 l2 l3 l4 l5 l6 l7 : Option Value} {t : ab_L} {z : Int} {x v : Int32} (hd : ab_ins y pc = some (.iinc 8 z, 3)) (hn : ab_nl l7 = true) (he : x + Int32.ofInt z = v) (k : wp d y (pc + 3) (l0 :: l1 :: l2 :: l3 :: l4 :: l5 :: l6 :: l7 :: some (.int v) :: t) st S Q) : wp d y pc (l0 :: l1 :: l2 :: l3 :: l4 :: l5 :: l6 :: l7 :: some (.int x) :: t) st S Q := wp_iinc hd rfl he (ab_s1_8 hn) k
theorem ab_s2_8 {l0 l1 l2 l3 l4 l5 l6 l7 l8 l9 : Option Value} {t : ab_L} {x : Int64} (hn : ab_nl l7 = true) : ab_s2 (l0 :: l1 :: l2 :: l3 :: l4 :: l5 :: l6 :: l7 :: l8 :: l9 :: t) 8 (.long x) = some (l0 :: l1 :: l2 :: l3 :: l4 :: l5 :: l6 :: l7 :: some (.long x) :: none :: t) := by
  unfold ab_s2
  rw [if_pos (by simp), show ab_ki (l0 :: l1 :: l2 :: l3 :: l4 :: l5 :: l6 :: l7 :: l8 :: l9 :: t) 8 = l0 :: l1 :: l2 :: l3 :: l4 :: l5 :: l6 :: l7 :: l8 :: l9 :: t from ab_ki_nl (j := 7) (o := l7) rfl hn]
  rfl
theorem wp_lsto8 {l0 l1 l2 l3 l4 l5 l6 l7 l8 l9 : Option Value} {t : ab_L} {x : Int64} (hd : ab_ins y pc = some (.lstore 8, 2)) (hn : ab_nl l7 = true) (k : wp d y (pc + 2) (l0 :: l1 :: l2 :: l3 :: l4 :: l5 :: l6 :: l7 :: some (.long x) :: none :: t) st S Q) : wp d y pc (l0 :: l1 :: l2 :: l3 :: l4 :: l5 :: l6 :: l7 :: l8 :: l9 :: t) (.long x :: st) S Q := wp_lstore hd (ab_s2_8 hn) k
theorem ab_s1_9 {l0 l1 l2 l3 l4 l5 l6 l7 l8 l9 : Option Value} {t : ab_L} {V : Value} (hn : ab_nl l8 = true) : ab_s1 (l0 :: l1 :: l2 :: l3 :: l4 :: l5 :: l6 :: l7 :: l8 :: l9 :: t) 9 V = some (l0 :: l1 :: l2 :: l3 :: l4 :: l5 :: l6 :: l7 :: l8 :: some V :: t) := by
  unfold ab_s1
  rw [if_pos (by simp), show ab_ki (l0 :: l1 :: l2 :: l3 :: l4 :: l5 :: l6 :: l7 :: l8 :: l9 :: t) 9 = l0 :: l1 :: l2 :: l3 :: l4 :: l5 :: l6 :: l7 :: l8 :: l9 :: t from ab_ki_nl (j := 8) (o := l8) rfl hn]
  rfl
theorem wp_isto9 {l0 l1 l2 l3 l4 l5 l6 l7 l8 l9 : Option Value} {t : ab_L} {x : Int32} (hd : ab_ins y pc = some (.istore 9, 2)) (hn : ab_nl l8 = true) (k : wp d y (pc + 2) (l0 :: l1 :: l2 :: l3 :: l4 :: l5 :: l6 :: l7 :: l8 :: some (.int x) :: t) st S Q) : wp d y pc (l0 :: l1 :: l2 :: l3 :: l4 :: l5 :: l6 :: l7 :: l8 :: l9 :: t) (.int x :: st) S Q := wp_istore hd (ab_s1_9 hn) k
theorem wp_asto9 {l0 l1 l2 l3 l4 l5 l6 l7 l8 l9 : Option Value} {t : ab_L} {x : Nat} (hd : ab_ins y pc = some (.astore 9, 2)) (hn : ab_nl l8 = true) (k : wp d y (pc + 2) (l0 :: l1 :: l2 :: l3 :: l4 :: l5 :: l6 :: l7 :: l8 :: some (.ref x) :: t) st S Q) : wp d y pc (l0 :: l1 :: l2 :: l3 :: l4 :: l5 :: l6 :: l7 :: l8 :: l9 :: t) (.ref x :: st) S Q := wp_astore hd (ab_s1_9 hn) k
theorem wp_iinc9 {l0 l1 l2 l3 l4 l5 l6 l7 l8 : Option Value} {t : ab_L} {z : Int} {x v : Int32} (hd : ab_ins y pc = some (.iinc 9 z, 3)) (hn : ab_nl l8 = true) (he : x + Int32.ofInt z = v) (k : wp d y (pc + 3) (l0 :: l1 :: l2 :: l3 :: l4 :: l5 :: l6 :: l7 :: l8 :: some (.int v) :: t) st S Q) : wp d y pc (l0 :: l1 :: l2 :: l3 :: l4 :: l5 :: l6 :: l7 :: l8 :: some (.int x) :: t) st S Q := wp_iinc hd rfl he (ab_s1_9 hn) k
end WS
theorem ow_Js_length : ab_own y_Js_length = 10 := by decide +kernel
theorem ml_Js_length : ab_ml y_Js_length = 1 := by decide +kernel
theorem rt_Js_length : ab_ret y_Js_length = (Option.some FieldType.int) := by decide +kernel
theorem mi_Js_length : ab_mi y_Js_length = some (0, false, 10, false) := by decide +kernel
theorem ow_Js_indexOf : ab_own y_Js_indexOf = 10 := by decide +kernel
theorem ml_Js_indexOf : ab_ml y_Js_indexOf = 2 := by decide +kernel
theorem rt_Js_indexOf : ab_ret y_Js_indexOf = (Option.some FieldType.int) := by decide +kernel
theorem mi_Js_indexOf : ab_mi y_Js_indexOf = some (1, false, 10, false) := by decide +kernel
theorem ow_Js_indexOf2 : ab_own y_Js_indexOf2 = 10 := by decide +kernel
theorem ml_Js_indexOf2 : ab_ml y_Js_indexOf2 = 3 := by decide +kernel
theorem rt_Js_indexOf2 : ab_ret y_Js_indexOf2 = (Option.some FieldType.int) := by decide +kernel
theorem mi_Js_indexOf2 : ab_mi y_Js_indexOf2 = some (2, false, 10, false) := by decide +kernel
theorem ow_Js_coder : ab_own y_Js_coder = 10 := by decide +kernel
theorem ml_Js_coder : ab_ml y_Js_coder = 1 := by decide +kernel
theorem rt_Js_coder : ab_ret y_Js_coder = (Option.some FieldType.byte) := by decide +kernel
theorem mi_Js_coder : ab_mi y_Js_coder = some (0, false, 10, false) := by decide +kernel
theorem ow_Js_isLatin1 : ab_own y_Js_isLatin1 = 10 := by decide +kernel
theorem ml_Js_isLatin1 : ab_ml y_Js_isLatin1 = 1 := by decide +kernel
theorem rt_Js_isLatin1 : ab_ret y_Js_isLatin1 = (Option.some FieldType.boolean) := by decide +kernel
theorem mi_Js_isLatin1 : ab_mi y_Js_isLatin1 = some (0, false, 10, false) := by decide +kernel
theorem ow_Jl_canEncode : ab_own y_Jl_canEncode = 11 := by decide +kernel
theorem ml_Jl_canEncode : ab_ml y_Jl_canEncode = 1 := by decide +kernel
theorem rt_Jl_canEncode : ab_ret y_Jl_canEncode = (Option.some FieldType.boolean) := by decide +kernel
theorem mi_Jl_canEncode : ab_mi y_Jl_canEncode = some (1, true, 11, false) := by decide +kernel
theorem ow_Jl_indexOf : ab_own y_Jl_indexOf = 11 := by decide +kernel
theorem ml_Jl_indexOf : ab_ml y_Jl_indexOf = 4 := by decide +kernel
theorem rt_Jl_indexOf : ab_ret y_Jl_indexOf = (Option.some FieldType.int) := by decide +kernel
theorem mi_Jl_indexOf : ab_mi y_Jl_indexOf = some (4, true, 11, false) := by decide +kernel
theorem ow_Jl_indexOfChar : ab_own y_Jl_indexOfChar = 11 := by decide +kernel
theorem ml_Jl_indexOfChar : ab_ml y_Jl_indexOfChar = 6 := by decide +kernel
theorem rt_Jl_indexOfChar : ab_ret y_Jl_indexOfChar = (Option.some FieldType.int) := by decide +kernel
theorem mi_Jl_indexOfChar : ab_mi y_Jl_indexOfChar = some (4, true, 11, false) := by decide +kernel
theorem ow_Ja_fill : ab_own y_Ja_fill = 13 := by decide +kernel
theorem ml_Ja_fill : ab_ml y_Ja_fill = 4 := by decide +kernel
theorem rt_Ja_fill : ab_ret y_Ja_fill = none := by decide +kernel
theorem mi_Ja_fill : ab_mi y_Ja_fill = some (2, true, 13, false) := by decide +kernel
theorem ow_Fi_init : ab_own y_Fi_init = 0 := by decide +kernel
theorem ml_Fi_init : ab_ml y_Fi_init = 2 := by decide +kernel
theorem rt_Fi_init : ab_ret y_Fi_init = none := by decide +kernel
theorem mi_Fi_init : ab_mi y_Fi_init = some (1, false, 0, true) := by decide +kernel
theorem ow_Fi_begin : ab_own y_Fi_begin = 0 := by decide +kernel
theorem ml_Fi_begin : ab_ml y_Fi_begin = 3 := by decide +kernel
theorem rt_Fi_begin : ab_ret y_Fi_begin = none := by decide +kernel
theorem mi_Fi_begin : ab_mi y_Fi_begin = some (2, false, 0, false) := by decide +kernel
theorem ow_Fi_copyFrom : ab_own y_Fi_copyFrom = 0 := by decide +kernel
theorem ml_Fi_copyFrom : ab_ml y_Fi_copyFrom = 2 := by decide +kernel
theorem rt_Fi_copyFrom : ab_ret y_Fi_copyFrom = none := by decide +kernel
theorem mi_Fi_copyFrom : ab_mi y_Fi_copyFrom = some (1, false, 0, false) := by decide +kernel
theorem ow_Fi_loseAllTold : ab_own y_Fi_loseAllTold = 0 := by decide +kernel
theorem ml_Fi_loseAllTold : ab_ml y_Fi_loseAllTold = 1 := by decide +kernel
theorem rt_Fi_loseAllTold : ab_ret y_Fi_loseAllTold = none := by decide +kernel
theorem mi_Fi_loseAllTold : ab_mi y_Fi_loseAllTold = some (0, false, 0, false) := by decide +kernel
theorem ow_Fi_toldByAll : ab_own y_Fi_toldByAll = 0 := by decide +kernel
theorem ml_Fi_toldByAll : ab_ml y_Fi_toldByAll = 3 := by decide +kernel
theorem rt_Fi_toldByAll : ab_ret y_Fi_toldByAll = (Option.some FieldType.int) := by decide +kernel
theorem mi_Fi_toldByAll : ab_mi y_Fi_toldByAll = some (0, false, 0, false) := by decide +kernel
theorem ow_Fi_hears : ab_own y_Fi_hears = 0 := by decide +kernel
theorem ml_Fi_hears : ab_ml y_Fi_hears = 1 := by decide +kernel
theorem rt_Fi_hears : ab_ret y_Fi_hears = (Option.some FieldType.boolean) := by decide +kernel
theorem mi_Fi_hears : ab_mi y_Fi_hears = some (0, false, 0, false) := by decide +kernel
theorem ow_Fi_listen : ab_own y_Fi_listen = 0 := by decide +kernel
theorem ml_Fi_listen : ab_ml y_Fi_listen = 2 := by decide +kernel
theorem rt_Fi_listen : ab_ret y_Fi_listen = none := by decide +kernel
theorem mi_Fi_listen : ab_mi y_Fi_listen = some (1, false, 0, false) := by decide +kernel
theorem ow_Fi_saysItself : ab_own y_Fi_saysItself = 0 := by decide +kernel
theorem ml_Fi_saysItself : ab_ml y_Fi_saysItself = 2 := by decide +kernel
theorem rt_Fi_saysItself : ab_ret y_Fi_saysItself = (Option.some FieldType.int) := by decide +kernel
theorem mi_Fi_saysItself : ab_mi y_Fi_saysItself = some (1, false, 0, false) := by decide +kernel
theorem ow_Fi_greatestBy : ab_own y_Fi_greatestBy = 0 := by decide +kernel
theorem ml_Fi_greatestBy : ab_ml y_Fi_greatestBy = 4 := by decide +kernel
theorem rt_Fi_greatestBy : ab_ret y_Fi_greatestBy = (Option.some FieldType.int) := by decide +kernel
theorem mi_Fi_greatestBy : ab_mi y_Fi_greatestBy = some (1, false, 0, false) := by decide +kernel
theorem ow_La_init : ab_own y_La_init = 1 := by decide +kernel
theorem ml_La_init : ab_ml y_La_init = 2 := by decide +kernel
theorem rt_La_init : ab_ret y_La_init = none := by decide +kernel
theorem mi_La_init : ab_mi y_La_init = some (0, false, 1, true) := by decide +kernel
theorem ow_La_copyFrom : ab_own y_La_copyFrom = 1 := by decide +kernel
theorem ml_La_copyFrom : ab_ml y_La_copyFrom = 3 := by decide +kernel
theorem rt_La_copyFrom : ab_ret y_La_copyFrom = none := by decide +kernel
theorem mi_La_copyFrom : ab_mi y_La_copyFrom = some (1, false, 1, false) := by decide +kernel
theorem ow_La_has : ab_own y_La_has = 1 := by decide +kernel
theorem ml_La_has : ab_ml y_La_has = 2 := by decide +kernel
theorem rt_La_has : ab_ret y_La_has = (Option.some FieldType.boolean) := by decide +kernel
theorem mi_La_has : ab_mi y_La_has = some (1, false, 1, false) := by decide +kernel
theorem ow_La_says : ab_own y_La_says = 1 := by decide +kernel
theorem ml_La_says : ab_ml y_La_says = 4 := by decide +kernel
theorem rt_La_says : ab_ret y_La_says = (Option.some FieldType.int) := by decide +kernel
theorem mi_La_says : ab_mi y_La_says = some (2, false, 1, false) := by decide +kernel
theorem ow_La_ownerOf : ab_own y_La_ownerOf = 1 := by decide +kernel
theorem ml_La_ownerOf : ab_ml y_La_ownerOf = 4 := by decide +kernel
theorem rt_La_ownerOf : ab_ret y_La_ownerOf = (Option.some FieldType.int) := by decide +kernel
theorem mi_La_ownerOf : ab_mi y_La_ownerOf = some (2, false, 1, false) := by decide +kernel
theorem ow_La_hasTitle : ab_own y_La_hasTitle = 1 := by decide +kernel
theorem ml_La_hasTitle : ab_ml y_La_hasTitle = 3 := by decide +kernel
theorem rt_La_hasTitle : ab_ret y_La_hasTitle = (Option.some FieldType.boolean) := by decide +kernel
theorem mi_La_hasTitle : ab_mi y_La_hasTitle = some (2, false, 1, false) := by decide +kernel
theorem ow_La_rentOf : ab_own y_La_rentOf = 1 := by decide +kernel
theorem ml_La_rentOf : ab_ml y_La_rentOf = 4 := by decide +kernel
theorem rt_La_rentOf : ab_ret y_La_rentOf = (Option.some FieldType.int) := by decide +kernel
theorem mi_La_rentOf : ab_mi y_La_rentOf = some (1, false, 1, false) := by decide +kernel
theorem ow_La_fieldsOf : ab_own y_La_fieldsOf = 1 := by decide +kernel
theorem ml_La_fieldsOf : ab_ml y_La_fieldsOf = 4 := by decide +kernel
theorem rt_La_fieldsOf : ab_ret y_La_fieldsOf = (Option.some FieldType.int) := by decide +kernel
theorem mi_La_fieldsOf : ab_mi y_La_fieldsOf = some (1, false, 1, false) := by decide +kernel
theorem ow_La_acresOf : ab_own y_La_acresOf = 1 := by decide +kernel
theorem ml_La_acresOf : ab_ml y_La_acresOf = 5 := by decide +kernel
theorem rt_La_acresOf : ab_ret y_La_acresOf = (Option.some FieldType.int) := by decide +kernel
theorem mi_La_acresOf : ab_mi y_La_acresOf = some (2, false, 1, false) := by decide +kernel
theorem ow_La_rentsOf : ab_own y_La_rentsOf = 1 := by decide +kernel
theorem ml_La_rentsOf : ab_ml y_La_rentsOf = 4 := by decide +kernel
theorem rt_La_rentsOf : ab_ret y_La_rentsOf = (Option.some FieldType.int) := by decide +kernel
theorem mi_La_rentsOf : ab_mi y_La_rentsOf = some (1, false, 1, false) := by decide +kernel
theorem ow_La_toldInAll : ab_own y_La_toldInAll = 1 := by decide +kernel
theorem ml_La_toldInAll : ab_ml y_La_toldInAll = 3 := by decide +kernel
theorem rt_La_toldInAll : ab_ret y_La_toldInAll = (Option.some FieldType.int) := by decide +kernel
theorem mi_La_toldInAll : ab_mi y_La_toldInAll = some (0, false, 1, false) := by decide +kernel
theorem ow_La_coachAt : ab_own y_La_coachAt = 1 := by decide +kernel
theorem ml_La_coachAt : ab_ml y_La_coachAt = 4 := by decide +kernel
theorem rt_La_coachAt : ab_ret y_La_coachAt = (Option.some FieldType.int) := by decide +kernel
theorem mi_La_coachAt : ab_mi y_La_coachAt = some (1, false, 1, false) := by decide +kernel
theorem ow_La_refuses : ab_own y_La_refuses = 1 := by decide +kernel
theorem ml_La_refuses : ab_ml y_La_refuses = 3 := by decide +kernel
theorem rt_La_refuses : ab_ret y_La_refuses = (Option.some FieldType.boolean) := by decide +kernel
theorem mi_La_refuses : ab_mi y_La_refuses = some (2, false, 1, false) := by decide +kernel
theorem ow_La_hearOut : ab_own y_La_hearOut = 1 := by decide +kernel
theorem ml_La_hearOut : ab_ml y_La_hearOut = 5 := by decide +kernel
theorem rt_La_hearOut : ab_ret y_La_hearOut = none := by decide +kernel
theorem mi_La_hearOut : ab_mi y_La_hearOut = some (2, false, 1, false) := by decide +kernel
theorem ow_La_draw : ab_own y_La_draw = 1 := by decide +kernel
theorem ml_La_draw : ab_ml y_La_draw = 1 := by decide +kernel
theorem rt_La_draw : ab_ret y_La_draw = (Option.some FieldType.int) := by decide +kernel
theorem mi_La_draw : ab_mi y_La_draw = some (0, false, 1, false) := by decide +kernel
theorem ow_La_saysAsIn : ab_own y_La_saysAsIn = 1 := by decide +kernel
theorem ml_La_saysAsIn : ab_ml y_La_saysAsIn = 3 := by decide +kernel
theorem rt_La_saysAsIn : ab_ret y_La_saysAsIn = (Option.some FieldType.boolean) := by decide +kernel
theorem mi_La_saysAsIn : ab_mi y_La_saysAsIn = some (1, false, 1, false) := by decide +kernel
theorem ow_Lw_init : ab_own y_Lw_init = 2 := by decide +kernel
theorem ml_Lw_init : ab_ml y_Lw_init = 2 := by decide +kernel
theorem rt_Lw_init : ab_ret y_Lw_init = none := by decide +kernel
theorem mi_Lw_init : ab_mi y_Lw_init = some (1, false, 2, true) := by decide +kernel
theorem ow_Lw_beginAsTitle : ab_own y_Lw_beginAsTitle = 2 := by decide +kernel
theorem ml_Lw_beginAsTitle : ab_ml y_Lw_beginAsTitle = 1 := by decide +kernel
theorem rt_Lw_beginAsTitle : ab_ret y_Lw_beginAsTitle = none := by decide +kernel
theorem mi_Lw_beginAsTitle : ab_mi y_Lw_beginAsTitle = some (0, false, 2, false) := by decide +kernel
theorem ow_Lw_beginAsRent : ab_own y_Lw_beginAsRent = 2 := by decide +kernel
theorem ml_Lw_beginAsRent : ab_ml y_Lw_beginAsRent = 1 := by decide +kernel
theorem rt_Lw_beginAsRent : ab_ret y_Lw_beginAsRent = none := by decide +kernel
theorem mi_Lw_beginAsRent : ab_mi y_Lw_beginAsRent = some (0, false, 2, false) := by decide +kernel
theorem ow_Lw_takeOver : ab_own y_Lw_takeOver = 2 := by decide +kernel
theorem ml_Lw_takeOver : ab_ml y_Lw_takeOver = 4 := by decide +kernel
theorem rt_Lw_takeOver : ab_ret y_Lw_takeOver = none := by decide +kernel
theorem mi_Lw_takeOver : ab_mi y_Lw_takeOver = some (2, false, 2, false) := by decide +kernel
theorem ow_Lw_work : ab_own y_Lw_work = 2 := by decide +kernel
theorem ml_Lw_work : ab_ml y_Lw_work = 7 := by decide +kernel
theorem rt_Lw_work : ab_ret y_Lw_work = (Option.some FieldType.int) := by decide +kernel
theorem mi_Lw_work : ab_mi y_Lw_work = some (3, false, 2, false) := by decide +kernel
theorem ow_Lw_join : ab_own y_Lw_join = 2 := by decide +kernel
theorem ml_Lw_join : ab_ml y_Lw_join = 3 := by decide +kernel
theorem rt_Lw_join : ab_ret y_Lw_join = (Option.some FieldType.int) := by decide +kernel
theorem mi_Lw_join : ab_mi y_Lw_join = some (3, true, 2, false) := by decide +kernel
theorem ow_Re_init : ab_own y_Re_init = 3 := by decide +kernel
theorem ml_Re_init : ab_ml y_Re_init = 2 := by decide +kernel
theorem rt_Re_init : ab_ret y_Re_init = none := by decide +kernel
theorem mi_Re_init : ab_mi y_Re_init = some (1, false, 3, true) := by decide +kernel
theorem ow_Re_faultOf : ab_own y_Re_faultOf = 3 := by decide +kernel
theorem ml_Re_faultOf : ab_ml y_Re_faultOf = 3 := by decide +kernel
theorem rt_Re_faultOf : ab_ret y_Re_faultOf = (Option.some FieldType.int) := by decide +kernel
theorem mi_Re_faultOf : ab_mi y_Re_faultOf = some (2, false, 3, false) := by decide +kernel
theorem ow_Re_readLevel : ab_own y_Re_readLevel = 3 := by decide +kernel
theorem ml_Re_readLevel : ab_ml y_Re_readLevel = 5 := by decide +kernel
theorem rt_Re_readLevel : ab_ret y_Re_readLevel = none := by decide +kernel
theorem mi_Re_readLevel : ab_mi y_Re_readLevel = some (1, false, 3, false) := by decide +kernel
theorem ow_Re_joinsOf : ab_own y_Re_joinsOf = 3 := by decide +kernel
theorem ml_Re_joinsOf : ab_ml y_Re_joinsOf = 1 := by decide +kernel
theorem rt_Re_joinsOf : ab_ret y_Re_joinsOf = (Option.some (FieldType.object "java/lang/String")) := by decide +kernel
theorem mi_Re_joinsOf : ab_mi y_Re_joinsOf = some (1, true, 3, false) := by decide +kernel
theorem ow_Re_readQ : ab_own y_Re_readQ = 3 := by decide +kernel
theorem ml_Re_readQ : ab_ml y_Re_readQ = 1 := by decide +kernel
theorem rt_Re_readQ : ab_ret y_Re_readQ = none := by decide +kernel
theorem mi_Re_readQ : ab_mi y_Re_readQ = some (0, false, 3, false) := by decide +kernel
theorem ow_Re_readOpened : ab_own y_Re_readOpened = 3 := by decide +kernel
theorem ml_Re_readOpened : ab_ml y_Re_readOpened = 1 := by decide +kernel
theorem rt_Re_readOpened : ab_ret y_Re_readOpened = none := by decide +kernel
theorem mi_Re_readOpened : ab_mi y_Re_readOpened = some (0, false, 3, false) := by decide +kernel
theorem ow_Re_readNumber : ab_own y_Re_readNumber = 3 := by decide +kernel
theorem ml_Re_readNumber : ab_ml y_Re_readNumber = 3 := by decide +kernel
theorem rt_Re_readNumber : ab_ret y_Re_readNumber = none := by decide +kernel
theorem mi_Re_readNumber : ab_mi y_Re_readNumber = some (0, false, 3, false) := by decide +kernel
theorem ow_Re_isNextOf : ab_own y_Re_isNextOf = 3 := by decide +kernel
theorem ml_Re_isNextOf : ab_ml y_Re_isNextOf = 2 := by decide +kernel
theorem rt_Re_isNextOf : ab_ret y_Re_isNextOf = (Option.some FieldType.boolean) := by decide +kernel
theorem mi_Re_isNextOf : ab_mi y_Re_isNextOf = some (1, false, 3, false) := by decide +kernel
theorem ow_Re_take : ab_own y_Re_take = 3 := by decide +kernel
theorem ml_Re_take : ab_ml y_Re_take = 2 := by decide +kernel
theorem rt_Re_take : ab_ret y_Re_take = (Option.some FieldType.int) := by decide +kernel
theorem mi_Re_take : ab_mi y_Re_take = some (0, false, 3, false) := by decide +kernel
theorem ow_Re_emit : ab_own y_Re_emit = 3 := by decide +kernel
theorem ml_Re_emit : ab_ml y_Re_emit = 2 := by decide +kernel
theorem rt_Re_emit : ab_ret y_Re_emit = none := by decide +kernel
theorem mi_Re_emit : ab_mi y_Re_emit = some (1, false, 3, false) := by decide +kernel
theorem ow_Sh_init : ab_own y_Sh_init = 4 := by decide +kernel
theorem ml_Sh_init : ab_ml y_Sh_init = 1 := by decide +kernel
theorem rt_Sh_init : ab_ret y_Sh_init = none := by decide +kernel
theorem mi_Sh_init : ab_mi y_Sh_init = some (0, false, 4, true) := by decide +kernel
theorem ow_Sh_begin : ab_own y_Sh_begin = 4 := by decide +kernel
theorem ml_Sh_begin : ab_ml y_Sh_begin = 3 := by decide +kernel
theorem rt_Sh_begin : ab_ret y_Sh_begin = none := by decide +kernel
theorem mi_Sh_begin : ab_mi y_Sh_begin = some (2, false, 4, false) := by decide +kernel
theorem ow_Sh_lowestBits : ab_own y_Sh_lowestBits = 4 := by decide +kernel
theorem ml_Sh_lowestBits : ab_ml y_Sh_lowestBits = 2 := by decide +kernel
theorem rt_Sh_lowestBits : ab_ret y_Sh_lowestBits = (Option.some FieldType.int) := by decide +kernel
theorem mi_Sh_lowestBits : ab_mi y_Sh_lowestBits = some (1, false, 4, false) := by decide +kernel
theorem ow_Sh_holds : ab_own y_Sh_holds = 4 := by decide +kernel
theorem ml_Sh_holds : ab_ml y_Sh_holds = 3 := by decide +kernel
theorem rt_Sh_holds : ab_ret y_Sh_holds = (Option.some FieldType.boolean) := by decide +kernel
theorem mi_Sh_holds : ab_mi y_Sh_holds = some (2, false, 4, false) := by decide +kernel
theorem ow_Th_init : ab_own y_Th_init = 5 := by decide +kernel
theorem ml_Th_init : ab_ml y_Th_init = 3 := by decide +kernel
theorem rt_Th_init : ab_ret y_Th_init = none := by decide +kernel
theorem mi_Th_init : ab_mi y_Th_init = some (1, false, 5, true) := by decide +kernel
theorem ow_Th_leastTellings : ab_own y_Th_leastTellings = 5 := by decide +kernel
theorem ml_Th_leastTellings : ab_ml y_Th_leastTellings = 6 := by decide +kernel
theorem rt_Th_leastTellings : ab_ret y_Th_leastTellings = (Option.some FieldType.int) := by decide +kernel
theorem mi_Th_leastTellings : ab_mi y_Th_leastTellings = some (2, false, 5, false) := by decide +kernel
theorem ow_Th_bestSet : ab_own y_Th_bestSet = 5 := by decide +kernel
theorem ml_Th_bestSet : ab_ml y_Th_bestSet = 6 := by decide +kernel
theorem rt_Th_bestSet : ab_ret y_Th_bestSet = (Option.some FieldType.int) := by decide +kernel
theorem mi_Th_bestSet : ab_mi y_Th_bestSet = some (1, false, 5, false) := by decide +kernel
theorem ow_Th_acresBy : ab_own y_Th_acresBy = 5 := by decide +kernel
theorem ml_Th_acresBy : ab_ml y_Th_acresBy = 7 := by decide +kernel
theorem rt_Th_acresBy : ab_ret y_Th_acresBy = (Option.some FieldType.int) := by decide +kernel
theorem mi_Th_acresBy : ab_mi y_Th_acresBy = some (1, false, 5, false) := by decide +kernel
theorem ow_Th_leadByTurns : ab_own y_Th_leadByTurns = 5 := by decide +kernel
theorem ml_Th_leadByTurns : ab_ml y_Th_leadByTurns = 4 := by decide +kernel
theorem rt_Th_leadByTurns : ab_ret y_Th_leadByTurns = (Option.some FieldType.int) := by decide +kernel
theorem mi_Th_leadByTurns : ab_mi y_Th_leadByTurns = some (3, false, 5, false) := by decide +kernel
theorem ow_Th_bestLead : ab_own y_Th_bestLead = 5 := by decide +kernel
theorem ml_Th_bestLead : ab_ml y_Th_bestLead = 8 := by decide +kernel
theorem rt_Th_bestLead : ab_ret y_Th_bestLead = (Option.some FieldType.int) := by decide +kernel
theorem mi_Th_bestLead : ab_mi y_Th_bestLead = some (4, true, 5, false) := by decide +kernel
theorem ow_Th_leadNow : ab_own y_Th_leadNow = 5 := by decide +kernel
theorem ml_Th_leadNow : ab_ml y_Th_leadNow = 6 := by decide +kernel
theorem rt_Th_leadNow : ab_ret y_Th_leadNow = (Option.some FieldType.int) := by decide +kernel
theorem mi_Th_leadNow : ab_mi y_Th_leadNow = some (2, false, 5, false) := by decide +kernel
theorem ow_Th_seekTelling : ab_own y_Th_seekTelling = 5 := by decide +kernel
theorem ml_Th_seekTelling : ab_ml y_Th_seekTelling = 5 := by decide +kernel
theorem rt_Th_seekTelling : ab_ret y_Th_seekTelling = none := by decide +kernel
theorem mi_Th_seekTelling : ab_mi y_Th_seekTelling = some (1, false, 5, false) := by decide +kernel
theorem ow_Th_seekFears : ab_own y_Th_seekFears = 5 := by decide +kernel
theorem ml_Th_seekFears : ab_ml y_Th_seekFears = 7 := by decide +kernel
theorem rt_Th_seekFears : ab_ret y_Th_seekFears = none := by decide +kernel
theorem mi_Th_seekFears : ab_mi y_Th_seekFears = some (1, false, 5, false) := by decide +kernel
theorem ow_Th_noteIfSaid : ab_own y_Th_noteIfSaid = 5 := by decide +kernel
theorem ml_Th_noteIfSaid : ab_ml y_Th_noteIfSaid = 3 := by decide +kernel
theorem rt_Th_noteIfSaid : ab_ret y_Th_noteIfSaid = none := by decide +kernel
theorem mi_Th_noteIfSaid : ab_mi y_Th_noteIfSaid = some (2, false, 5, false) := by decide +kernel
theorem ow_Th_oddsOf : ab_own y_Th_oddsOf = 5 := by decide +kernel
theorem ml_Th_oddsOf : ab_ml y_Th_oddsOf = 8 := by decide +kernel
theorem rt_Th_oddsOf : ab_ret y_Th_oddsOf = (Option.some FieldType.long) := by decide +kernel
theorem mi_Th_oddsOf : ab_mi y_Th_oddsOf = some (2, false, 5, false) := by decide +kernel
theorem ow_Vo_init : ab_own y_Vo_init = 6 := by decide +kernel
theorem ml_Vo_init : ab_ml y_Vo_init = 1 := by decide +kernel
theorem rt_Vo_init : ab_ret y_Vo_init = none := by decide +kernel
theorem mi_Vo_init : ab_mi y_Vo_init = some (0, false, 6, true) := by decide +kernel
theorem ow_Vo_speak : ab_own y_Vo_speak = 6 := by decide +kernel
theorem ml_Vo_speak : ab_ml y_Vo_speak = 4 := by decide +kernel
theorem rt_Vo_speak : ab_ret y_Vo_speak = (Option.some FieldType.int) := by decide +kernel
theorem mi_Vo_speak : ab_mi y_Vo_speak = some (3, false, 6, false) := by decide +kernel
theorem ow_Vo_body : ab_own y_Vo_body = 6 := by decide +kernel
theorem ml_Vo_body : ab_ml y_Vo_body = 10 := by decide +kernel
theorem rt_Vo_body : ab_ret y_Vo_body = (Option.some FieldType.int) := by decide +kernel
theorem mi_Vo_body : ab_mi y_Vo_body = some (5, true, 6, false) := by decide +kernel
theorem ow_Vo_begin : ab_own y_Vo_begin = 6 := by decide +kernel
theorem ml_Vo_begin : ab_ml y_Vo_begin = 2 := by decide +kernel
theorem rt_Vo_begin : ab_ret y_Vo_begin = none := by decide +kernel
theorem mi_Vo_begin : ab_mi y_Vo_begin = some (1, false, 6, false) := by decide +kernel
theorem ow_Fo_init : ab_own y_Fo_init = 7 := by decide +kernel
theorem ml_Fo_init : ab_ml y_Fo_init = 2 := by decide +kernel
theorem rt_Fo_init : ab_ret y_Fo_init = none := by decide +kernel
theorem mi_Fo_init : ab_mi y_Fo_init = some (0, false, 7, true) := by decide +kernel
theorem ow_Fo_field : ab_own y_Fo_field = 7 := by decide +kernel
theorem ml_Fo_field : ab_ml y_Fo_field = 4 := by decide +kernel
theorem rt_Fo_field : ab_ret y_Fo_field = (Option.some FieldType.int) := by decide +kernel
theorem mi_Fo_field : ab_mi y_Fo_field = some (2, false, 7, false) := by decide +kernel
theorem ow_Fo_ofField : ab_own y_Fo_ofField = 7 := by decide +kernel
theorem ml_Fo_ofField : ab_ml y_Fo_ofField = 4 := by decide +kernel
theorem rt_Fo_ofField : ab_ret y_Fo_ofField = (Option.some FieldType.int) := by decide +kernel
theorem mi_Fo_ofField : ab_mi y_Fo_ofField = some (2, false, 7, false) := by decide +kernel
theorem ow_Fo_tellings : ab_own y_Fo_tellings = 7 := by decide +kernel
theorem ml_Fo_tellings : ab_ml y_Fo_tellings = 3 := by decide +kernel
theorem rt_Fo_tellings : ab_ret y_Fo_tellings = (Option.some FieldType.int) := by decide +kernel
theorem mi_Fo_tellings : ab_mi y_Fo_tellings = some (2, false, 7, false) := by decide +kernel
theorem ow_Fo_ofOwner : ab_own y_Fo_ofOwner = 7 := by decide +kernel
theorem ml_Fo_ofOwner : ab_ml y_Fo_ofOwner = 3 := by decide +kernel
theorem rt_Fo_ofOwner : ab_ret y_Fo_ofOwner = (Option.some FieldType.int) := by decide +kernel
theorem mi_Fo_ofOwner : ab_mi y_Fo_ofOwner = some (2, false, 7, false) := by decide +kernel
theorem ow_Fo_become : ab_own y_Fo_become = 7 := by decide +kernel
theorem ml_Fo_become : ab_ml y_Fo_become = 5 := by decide +kernel
theorem rt_Fo_become : ab_ret y_Fo_become = (Option.some FieldType.int) := by decide +kernel
theorem mi_Fo_become : ab_mi y_Fo_become = some (2, false, 7, false) := by decide +kernel
theorem ow_Fo_as : ab_own y_Fo_as = 7 := by decide +kernel
theorem ml_Fo_as : ab_ml y_Fo_as = 4 := by decide +kernel
theorem rt_Fo_as : ab_ret y_Fo_as = (Option.some FieldType.int) := by decide +kernel
theorem mi_Fo_as : ab_mi y_Fo_as = some (2, false, 7, false) := by decide +kernel
theorem ow_Fo_set : ab_own y_Fo_set = 7 := by decide +kernel
theorem ml_Fo_set : ab_ml y_Fo_set = 7 := by decide +kernel
theorem rt_Fo_set : ab_ret y_Fo_set = (Option.some FieldType.int) := by decide +kernel
theorem mi_Fo_set : ab_mi y_Fo_set = some (3, false, 7, false) := by decide +kernel
theorem ow_Fo_fear : ab_own y_Fo_fear = 7 := by decide +kernel
theorem ml_Fo_fear : ab_ml y_Fo_fear = 4 := by decide +kernel
theorem rt_Fo_fear : ab_ret y_Fo_fear = (Option.some FieldType.int) := by decide +kernel
theorem mi_Fo_fear : ab_mi y_Fo_fear = some (2, false, 7, false) := by decide +kernel
theorem ow_Fo_pace : ab_own y_Fo_pace = 7 := by decide +kernel
theorem ml_Fo_pace : ab_ml y_Fo_pace = 3 := by decide +kernel
theorem rt_Fo_pace : ab_ret y_Fo_pace = (Option.some FieldType.int) := by decide +kernel
theorem mi_Fo_pace : ab_mi y_Fo_pace = some (1, false, 7, false) := by decide +kernel
theorem ow_Fo_forgets : ab_own y_Fo_forgets = 7 := by decide +kernel
theorem ml_Fo_forgets : ab_ml y_Fo_forgets = 4 := by decide +kernel
theorem rt_Fo_forgets : ab_ret y_Fo_forgets = (Option.some FieldType.int) := by decide +kernel
theorem mi_Fo_forgets : ab_mi y_Fo_forgets = some (1, false, 7, false) := by decide +kernel
theorem ow_Fo_tells : ab_own y_Fo_tells = 7 := by decide +kernel
theorem ml_Fo_tells : ab_ml y_Fo_tells = 3 := by decide +kernel
theorem rt_Fo_tells : ab_ret y_Fo_tells = (Option.some FieldType.int) := by decide +kernel
theorem mi_Fo_tells : ab_mi y_Fo_tells = some (2, false, 7, false) := by decide +kernel
theorem ow_Fo_loose : ab_own y_Fo_loose = 7 := by decide +kernel
theorem ml_Fo_loose : ab_ml y_Fo_loose = 6 := by decide +kernel
theorem rt_Fo_loose : ab_ret y_Fo_loose = (Option.some FieldType.int) := by decide +kernel
theorem mi_Fo_loose : ab_mi y_Fo_loose = some (1, false, 7, false) := by decide +kernel
theorem ow_Fo_feed : ab_own y_Fo_feed = 7 := by decide +kernel
theorem ml_Fo_feed : ab_ml y_Fo_feed = 5 := by decide +kernel
theorem rt_Fo_feed : ab_ret y_Fo_feed = (Option.some FieldType.int) := by decide +kernel
theorem mi_Fo_feed : ab_mi y_Fo_feed = some (2, false, 7, false) := by decide +kernel
theorem ow_Fo_text : ab_own y_Fo_text = 7 := by decide +kernel
theorem ml_Fo_text : ab_ml y_Fo_text = 4 := by decide +kernel
theorem rt_Fo_text : ab_ret y_Fo_text = (Option.some FieldType.int) := by decide +kernel
theorem mi_Fo_text : ab_mi y_Fo_text = some (1, false, 7, false) := by decide +kernel
theorem ow_Fo_law : ab_own y_Fo_law = 7 := by decide +kernel
theorem ml_Fo_law : ab_ml y_Fo_law = 5 := by decide +kernel
theorem rt_Fo_law : ab_ret y_Fo_law = (Option.some FieldType.int) := by decide +kernel
theorem mi_Fo_law : ab_mi y_Fo_law = some (4, false, 7, false) := by decide +kernel
theorem ow_Fo_needed : ab_own y_Fo_needed = 7 := by decide +kernel
theorem ml_Fo_needed : ab_ml y_Fo_needed = 4 := by decide +kernel
theorem rt_Fo_needed : ab_ret y_Fo_needed = (Option.some FieldType.int) := by decide +kernel
theorem mi_Fo_needed : ab_mi y_Fo_needed = some (2, false, 7, false) := by decide +kernel
theorem ow_Fo_coach : ab_own y_Fo_coach = 7 := by decide +kernel
theorem ml_Fo_coach : ab_ml y_Fo_coach = 2 := by decide +kernel
theorem rt_Fo_coach : ab_ret y_Fo_coach = (Option.some FieldType.int) := by decide +kernel
theorem mi_Fo_coach : ab_mi y_Fo_coach = some (1, false, 7, false) := by decide +kernel
theorem ow_Fo_gain : ab_own y_Fo_gain = 7 := by decide +kernel
theorem ml_Fo_gain : ab_ml y_Fo_gain = 4 := by decide +kernel
theorem rt_Fo_gain : ab_ret y_Fo_gain = (Option.some FieldType.int) := by decide +kernel
theorem mi_Fo_gain : ab_mi y_Fo_gain = some (2, false, 7, false) := by decide +kernel
theorem ow_Fo_turns : ab_own y_Fo_turns = 7 := by decide +kernel
theorem ml_Fo_turns : ab_ml y_Fo_turns = 4 := by decide +kernel
theorem rt_Fo_turns : ab_ret y_Fo_turns = (Option.some FieldType.int) := by decide +kernel
theorem mi_Fo_turns : ab_mi y_Fo_turns = some (3, false, 7, false) := by decide +kernel
theorem ow_Fo_one : ab_own y_Fo_one = 7 := by decide +kernel
theorem ml_Fo_one : ab_ml y_Fo_one = 3 := by decide +kernel
theorem rt_Fo_one : ab_ret y_Fo_one = (Option.some FieldType.int) := by decide +kernel
theorem mi_Fo_one : ab_mi y_Fo_one = some (2, false, 7, false) := by decide +kernel
theorem ow_Fo_fears : ab_own y_Fo_fears = 7 := by decide +kernel
theorem ml_Fo_fears : ab_ml y_Fo_fears = 3 := by decide +kernel
theorem rt_Fo_fears : ab_ret y_Fo_fears = (Option.some FieldType.int) := by decide +kernel
theorem mi_Fo_fears : ab_mi y_Fo_fears = some (2, false, 7, false) := by decide +kernel
theorem ow_Fo_silence : ab_own y_Fo_silence = 7 := by decide +kernel
theorem ml_Fo_silence : ab_ml y_Fo_silence = 3 := by decide +kernel
theorem rt_Fo_silence : ab_ret y_Fo_silence = (Option.some FieldType.int) := by decide +kernel
theorem mi_Fo_silence : ab_mi y_Fo_silence = some (2, false, 7, false) := by decide +kernel
theorem ow_Fo_odds : ab_own y_Fo_odds = 7 := by decide +kernel
theorem ml_Fo_odds : ab_ml y_Fo_odds = 3 := by decide +kernel
theorem rt_Fo_odds : ab_ret y_Fo_odds = (Option.some FieldType.long) := by decide +kernel
theorem mi_Fo_odds : ab_mi y_Fo_odds = some (2, false, 7, false) := by decide +kernel
theorem ow_Fo_seed : ab_own y_Fo_seed = 7 := by decide +kernel
theorem ml_Fo_seed : ab_ml y_Fo_seed = 3 := by decide +kernel
theorem rt_Fo_seed : ab_ret y_Fo_seed = (Option.some FieldType.int) := by decide +kernel
theorem mi_Fo_seed : ab_mi y_Fo_seed = some (1, false, 7, false) := by decide +kernel
theorem ow_Fo_voice : ab_own y_Fo_voice = 7 := by decide +kernel
theorem ml_Fo_voice : ab_ml y_Fo_voice = 4 := by decide +kernel
theorem rt_Fo_voice : ab_ret y_Fo_voice = (Option.some FieldType.int) := by decide +kernel
theorem mi_Fo_voice : ab_mi y_Fo_voice = some (3, false, 7, false) := by decide +kernel
theorem ow_Fo_trace : ab_own y_Fo_trace = 7 := by decide +kernel
theorem ml_Fo_trace : ab_ml y_Fo_trace = 2 := by decide +kernel
theorem rt_Fo_trace : ab_ret y_Fo_trace = (Option.some FieldType.int) := by decide +kernel
theorem mi_Fo_trace : ab_mi y_Fo_trace = some (1, false, 7, false) := by decide +kernel
theorem ow_Fo_sheet : ab_own y_Fo_sheet = 7 := by decide +kernel
theorem ml_Fo_sheet : ab_ml y_Fo_sheet = 5 := by decide +kernel
theorem rt_Fo_sheet : ab_ret y_Fo_sheet = (Option.some FieldType.int) := by decide +kernel
theorem mi_Fo_sheet : ab_mi y_Fo_sheet = some (3, false, 7, false) := by decide +kernel
theorem ow_Fo_put : ab_own y_Fo_put = 7 := by decide +kernel
theorem ml_Fo_put : ab_ml y_Fo_put = 5 := by decide +kernel
theorem rt_Fo_put : ab_ret y_Fo_put = (Option.some FieldType.int) := by decide +kernel
theorem mi_Fo_put : ab_mi y_Fo_put = some (3, false, 7, false) := by decide +kernel
theorem ow_Fo_move : ab_own y_Fo_move = 7 := by decide +kernel
theorem ml_Fo_move : ab_ml y_Fo_move = 8 := by decide +kernel
theorem rt_Fo_move : ab_ret y_Fo_move = (Option.some FieldType.int) := by decide +kernel
theorem mi_Fo_move : ab_mi y_Fo_move = some (5, false, 7, false) := by decide +kernel
theorem ow_Fo_acres : ab_own y_Fo_acres = 7 := by decide +kernel
theorem ml_Fo_acres : ab_ml y_Fo_acres = 5 := by decide +kernel
theorem rt_Fo_acres : ab_ret y_Fo_acres = (Option.some FieldType.int) := by decide +kernel
theorem mi_Fo_acres : ab_mi y_Fo_acres = some (1, false, 7, false) := by decide +kernel
theorem ow_Fo_judge : ab_own y_Fo_judge = 7 := by decide +kernel
theorem ml_Fo_judge : ab_ml y_Fo_judge = 6 := by decide +kernel
theorem rt_Fo_judge : ab_ret y_Fo_judge = (Option.some FieldType.int) := by decide +kernel
theorem mi_Fo_judge : ab_mi y_Fo_judge = some (1, false, 7, false) := by decide +kernel
theorem ow_Fo_image : ab_own y_Fo_image = 7 := by decide +kernel
theorem ml_Fo_image : ab_ml y_Fo_image = 1 := by decide +kernel
theorem rt_Fo_image : ab_ret y_Fo_image = (Option.some FieldType.int) := by decide +kernel
theorem mi_Fo_image : ab_mi y_Fo_image = some (0, false, 7, false) := by decide +kernel
theorem ow_Fo_restore : ab_own y_Fo_restore = 7 := by decide +kernel
theorem ml_Fo_restore : ab_ml y_Fo_restore = 1 := by decide +kernel
theorem rt_Fo_restore : ab_ret y_Fo_restore = (Option.some FieldType.int) := by decide +kernel
theorem mi_Fo_restore : ab_mi y_Fo_restore = some (0, false, 7, false) := by decide +kernel
theorem ow_Fo_tell : ab_own y_Fo_tell = 7 := by decide +kernel
theorem ml_Fo_tell : ab_ml y_Fo_tell = 2 := by decide +kernel
theorem rt_Fo_tell : ab_ret y_Fo_tell = (Option.some FieldType.int) := by decide +kernel
theorem mi_Fo_tell : ab_mi y_Fo_tell = some (1, false, 7, false) := by decide +kernel
theorem ow_Fo_check : ab_own y_Fo_check = 7 := by decide +kernel
theorem ml_Fo_check : ab_ml y_Fo_check = 4 := by decide +kernel
theorem rt_Fo_check : ab_ret y_Fo_check = (Option.some FieldType.int) := by decide +kernel
theorem mi_Fo_check : ab_mi y_Fo_check = some (0, false, 7, false) := by decide +kernel
theorem ow_Fo_count : ab_own y_Fo_count = 7 := by decide +kernel
theorem ml_Fo_count : ab_ml y_Fo_count = 2 := by decide +kernel
theorem rt_Fo_count : ab_ret y_Fo_count = (Option.some FieldType.int) := by decide +kernel
theorem mi_Fo_count : ab_mi y_Fo_count = some (1, false, 7, false) := by decide +kernel
theorem ow_Fo_told : ab_own y_Fo_told = 7 := by decide +kernel
theorem ml_Fo_told : ab_ml y_Fo_told = 2 := by decide +kernel
theorem rt_Fo_told : ab_ret y_Fo_told = (Option.some FieldType.int) := by decide +kernel
theorem mi_Fo_told : ab_mi y_Fo_told = some (1, false, 7, false) := by decide +kernel
theorem ow_Fo_error : ab_own y_Fo_error = 7 := by decide +kernel
theorem ml_Fo_error : ab_ml y_Fo_error = 2 := by decide +kernel
theorem rt_Fo_error : ab_ret y_Fo_error = (Option.some FieldType.int) := by decide +kernel
theorem mi_Fo_error : ab_mi y_Fo_error = some (1, false, 7, false) := by decide +kernel
theorem ow_Fo_isWithin : ab_own y_Fo_isWithin = 7 := by decide +kernel
theorem ml_Fo_isWithin : ab_ml y_Fo_isWithin = 3 := by decide +kernel
theorem rt_Fo_isWithin : ab_ret y_Fo_isWithin = (Option.some FieldType.boolean) := by decide +kernel
theorem mi_Fo_isWithin : ab_mi y_Fo_isWithin = some (3, true, 7, false) := by decide +kernel
theorem ow_Fo_isOwner : ab_own y_Fo_isOwner = 7 := by decide +kernel
theorem ml_Fo_isOwner : ab_ml y_Fo_isOwner = 1 := by decide +kernel
theorem rt_Fo_isOwner : ab_ret y_Fo_isOwner = (Option.some FieldType.boolean) := by decide +kernel
theorem mi_Fo_isOwner : ab_mi y_Fo_isOwner = some (1, true, 7, false) := by decide +kernel
theorem ow_Fo_isSheet : ab_own y_Fo_isSheet = 7 := by decide +kernel
theorem ml_Fo_isSheet : ab_ml y_Fo_isSheet = 1 := by decide +kernel
theorem rt_Fo_isSheet : ab_ret y_Fo_isSheet = (Option.some FieldType.boolean) := by decide +kernel
theorem mi_Fo_isSheet : ab_mi y_Fo_isSheet = some (1, true, 7, false) := by decide +kernel
theorem ow_Fo_isKm : ab_own y_Fo_isKm = 7 := by decide +kernel
theorem ml_Fo_isKm : ab_ml y_Fo_isKm = 1 := by decide +kernel
theorem rt_Fo_isKm : ab_ret y_Fo_isKm = (Option.some FieldType.boolean) := by decide +kernel
theorem mi_Fo_isKm : ab_mi y_Fo_isKm = some (1, true, 7, false) := by decide +kernel
theorem ow_Fo_isKindUnder : ab_own y_Fo_isKindUnder = 7 := by decide +kernel
theorem ml_Fo_isKindUnder : ab_ml y_Fo_isKindUnder = 4 := by decide +kernel
theorem rt_Fo_isKindUnder : ab_ret y_Fo_isKindUnder = (Option.some FieldType.boolean) := by decide +kernel
theorem mi_Fo_isKindUnder : ab_mi y_Fo_isKindUnder = some (2, true, 7, false) := by decide +kernel
theorem ow_Fo_heldRent : ab_own y_Fo_heldRent = 7 := by decide +kernel
theorem ml_Fo_heldRent : ab_ml y_Fo_heldRent = 1 := by decide +kernel
theorem rt_Fo_heldRent : ab_ret y_Fo_heldRent = (Option.some FieldType.int) := by decide +kernel
theorem mi_Fo_heldRent : ab_mi y_Fo_heldRent = some (1, true, 7, false) := by decide +kernel
theorem ow_Mo_init : ab_own y_Mo_init = 8 := by decide +kernel
theorem ml_Mo_init : ab_ml y_Mo_init = 2 := by decide +kernel
theorem rt_Mo_init : ab_ret y_Mo_init = none := by decide +kernel
theorem mi_Mo_init : ab_mi y_Mo_init = some (0, false, 8, true) := by decide +kernel
theorem ow_Mo_in : ab_own y_Mo_in = 8 := by decide +kernel
theorem ml_Mo_in : ab_ml y_Mo_in = 3 := by decide +kernel
theorem rt_Mo_in : ab_ret y_Mo_in = (Option.some FieldType.boolean) := by decide +kernel
theorem mi_Mo_in : ab_mi y_Mo_in = some (3, true, 8, false) := by decide +kernel
theorem ow_Mo_errs : ab_own y_Mo_errs = 8 := by decide +kernel
theorem ml_Mo_errs : ab_ml y_Mo_errs = 2 := by decide +kernel
theorem rt_Mo_errs : ab_ret y_Mo_errs = (Option.some FieldType.int) := by decide +kernel
theorem mi_Mo_errs : ab_mi y_Mo_errs = some (1, false, 8, false) := by decide +kernel
theorem ow_Mo_held : ab_own y_Mo_held = 8 := by decide +kernel
theorem ml_Mo_held : ab_ml y_Mo_held = 3 := by decide +kernel
theorem rt_Mo_held : ab_ret y_Mo_held = (Option.some FieldType.int) := by decide +kernel
theorem mi_Mo_held : ab_mi y_Mo_held = some (3, true, 8, false) := by decide +kernel
theorem ow_Mo_moveAll : ab_own y_Mo_moveAll = 8 := by decide +kernel
theorem ml_Mo_moveAll : ab_ml y_Mo_moveAll = 4 := by decide +kernel
theorem rt_Mo_moveAll : ab_ret y_Mo_moveAll = none := by decide +kernel
theorem mi_Mo_moveAll : ab_mi y_Mo_moveAll = some (2, false, 8, false) := by decide +kernel
theorem ow_Mo_isField : ab_own y_Mo_isField = 8 := by decide +kernel
theorem ml_Mo_isField : ab_ml y_Mo_isField = 2 := by decide +kernel
theorem rt_Mo_isField : ab_ret y_Mo_isField = (Option.some FieldType.boolean) := by decide +kernel
theorem mi_Mo_isField : ab_mi y_Mo_isField = some (1, false, 8, false) := by decide +kernel
theorem ow_Mo_isOwner : ab_own y_Mo_isOwner = 8 := by decide +kernel
theorem ml_Mo_isOwner : ab_ml y_Mo_isOwner = 1 := by decide +kernel
theorem rt_Mo_isOwner : ab_ret y_Mo_isOwner = (Option.some FieldType.boolean) := by decide +kernel
theorem mi_Mo_isOwner : ab_mi y_Mo_isOwner = some (1, true, 8, false) := by decide +kernel
theorem ow_Mo_its : ab_own y_Mo_its = 8 := by decide +kernel
theorem ml_Mo_its : ab_ml y_Mo_its = 3 := by decide +kernel
theorem rt_Mo_its : ab_ret y_Mo_its = (Option.some FieldType.int) := by decide +kernel
theorem mi_Mo_its : ab_mi y_Mo_its = some (2, false, 8, false) := by decide +kernel
theorem ow_Mo_puts : ab_own y_Mo_puts = 8 := by decide +kernel
theorem ml_Mo_puts : ab_ml y_Mo_puts = 4 := by decide +kernel
theorem rt_Mo_puts : ab_ret y_Mo_puts = none := by decide +kernel
theorem mi_Mo_puts : ab_mi y_Mo_puts = some (3, false, 8, false) := by decide +kernel
theorem ow_Mo_field : ab_own y_Mo_field = 8 := by decide +kernel
theorem ml_Mo_field : ab_ml y_Mo_field = 4 := by decide +kernel
theorem rt_Mo_field : ab_ret y_Mo_field = (Option.some FieldType.int) := by decide +kernel
theorem mi_Mo_field : ab_mi y_Mo_field = some (2, false, 8, false) := by decide +kernel
theorem ow_Mo_isTold : ab_own y_Mo_isTold = 8 := by decide +kernel
theorem ml_Mo_isTold : ab_ml y_Mo_isTold = 3 := by decide +kernel
theorem rt_Mo_isTold : ab_ret y_Mo_isTold = none := by decide +kernel
theorem mi_Mo_isTold : ab_mi y_Mo_isTold = some (1, false, 8, false) := by decide +kernel
theorem ow_Mo_toldBy : ab_own y_Mo_toldBy = 8 := by decide +kernel
theorem ml_Mo_toldBy : ab_ml y_Mo_toldBy = 4 := by decide +kernel
theorem rt_Mo_toldBy : ab_ret y_Mo_toldBy = (Option.some FieldType.int) := by decide +kernel
theorem mi_Mo_toldBy : ab_mi y_Mo_toldBy = some (1, false, 8, false) := by decide +kernel
theorem ow_Mo_greatest : ab_own y_Mo_greatest = 8 := by decide +kernel
theorem ml_Mo_greatest : ab_ml y_Mo_greatest = 8 := by decide +kernel
theorem rt_Mo_greatest : ab_ret y_Mo_greatest = (Option.some FieldType.int) := by decide +kernel
theorem mi_Mo_greatest : ab_mi y_Mo_greatest = some (2, false, 8, false) := by decide +kernel
theorem ow_Mo_saysNow : ab_own y_Mo_saysNow = 8 := by decide +kernel
theorem ml_Mo_saysNow : ab_ml y_Mo_saysNow = 4 := by decide +kernel
theorem rt_Mo_saysNow : ab_ret y_Mo_saysNow = (Option.some FieldType.int) := by decide +kernel
theorem mi_Mo_saysNow : ab_mi y_Mo_saysNow = some (1, false, 8, false) := by decide +kernel
theorem ow_Mo_doesHear : ab_own y_Mo_doesHear = 8 := by decide +kernel
theorem ml_Mo_doesHear : ab_ml y_Mo_doesHear = 3 := by decide +kernel
theorem rt_Mo_doesHear : ab_ret y_Mo_doesHear = (Option.some FieldType.boolean) := by decide +kernel
theorem mi_Mo_doesHear : ab_mi y_Mo_doesHear = some (1, false, 8, false) := by decide +kernel
theorem ow_Mo_whose : ab_own y_Mo_whose = 8 := by decide +kernel
theorem ml_Mo_whose : ab_ml y_Mo_whose = 3 := by decide +kernel
theorem rt_Mo_whose : ab_ret y_Mo_whose = (Option.some FieldType.int) := by decide +kernel
theorem mi_Mo_whose : ab_mi y_Mo_whose = some (1, false, 8, false) := by decide +kernel
theorem ow_Mo_rentOf : ab_own y_Mo_rentOf = 8 := by decide +kernel
theorem ml_Mo_rentOf : ab_ml y_Mo_rentOf = 3 := by decide +kernel
theorem rt_Mo_rentOf : ab_ret y_Mo_rentOf = (Option.some FieldType.int) := by decide +kernel
theorem mi_Mo_rentOf : ab_mi y_Mo_rentOf = some (1, false, 8, false) := by decide +kernel
theorem ow_Mo_ofField : ab_own y_Mo_ofField = 8 := by decide +kernel
theorem ml_Mo_ofField : ab_ml y_Mo_ofField = 3 := by decide +kernel
theorem rt_Mo_ofField : ab_ret y_Mo_ofField = (Option.some FieldType.int) := by decide +kernel
theorem mi_Mo_ofField : ab_mi y_Mo_ofField = some (2, false, 8, false) := by decide +kernel
theorem ow_Mo_tellings : ab_own y_Mo_tellings = 8 := by decide +kernel
theorem ml_Mo_tellings : ab_ml y_Mo_tellings = 3 := by decide +kernel
theorem rt_Mo_tellings : ab_ret y_Mo_tellings = (Option.some FieldType.int) := by decide +kernel
theorem mi_Mo_tellings : ab_mi y_Mo_tellings = some (2, false, 8, false) := by decide +kernel
theorem ow_Mo_acresOf : ab_own y_Mo_acresOf = 8 := by decide +kernel
theorem ml_Mo_acresOf : ab_ml y_Mo_acresOf = 4 := by decide +kernel
theorem rt_Mo_acresOf : ab_ret y_Mo_acresOf = (Option.some FieldType.int) := by decide +kernel
theorem mi_Mo_acresOf : ab_mi y_Mo_acresOf = some (1, false, 8, false) := by decide +kernel
theorem ow_Mo_ofOwner : ab_own y_Mo_ofOwner = 8 := by decide +kernel
theorem ml_Mo_ofOwner : ab_ml y_Mo_ofOwner = 6 := by decide +kernel
theorem rt_Mo_ofOwner : ab_ret y_Mo_ofOwner = (Option.some FieldType.int) := by decide +kernel
theorem mi_Mo_ofOwner : ab_mi y_Mo_ofOwner = some (2, false, 8, false) := by decide +kernel
theorem ow_Mo_become : ab_own y_Mo_become = 8 := by decide +kernel
theorem ml_Mo_become : ab_ml y_Mo_become = 4 := by decide +kernel
theorem rt_Mo_become : ab_ret y_Mo_become = (Option.some FieldType.int) := by decide +kernel
theorem mi_Mo_become : ab_mi y_Mo_become = some (2, false, 8, false) := by decide +kernel
theorem ow_Mo_above : ab_own y_Mo_above = 8 := by decide +kernel
theorem ml_Mo_above : ab_ml y_Mo_above = 1 := by decide +kernel
theorem rt_Mo_above : ab_ret y_Mo_above = (Option.some FieldType.int) := by decide +kernel
theorem mi_Mo_above : ab_mi y_Mo_above = some (1, true, 8, false) := by decide +kernel
theorem ow_Mo_as : ab_own y_Mo_as = 8 := by decide +kernel
theorem ml_Mo_as : ab_ml y_Mo_as = 4 := by decide +kernel
theorem rt_Mo_as : ab_ret y_Mo_as = (Option.some FieldType.int) := by decide +kernel
theorem mi_Mo_as : ab_mi y_Mo_as = some (2, false, 8, false) := by decide +kernel
theorem ow_Mo_set : ab_own y_Mo_set = 8 := by decide +kernel
theorem ml_Mo_set : ab_ml y_Mo_set = 6 := by decide +kernel
theorem rt_Mo_set : ab_ret y_Mo_set = (Option.some FieldType.int) := by decide +kernel
theorem mi_Mo_set : ab_mi y_Mo_set = some (3, false, 8, false) := by decide +kernel
theorem ow_Mo_fear : ab_own y_Mo_fear = 8 := by decide +kernel
theorem ml_Mo_fear : ab_ml y_Mo_fear = 4 := by decide +kernel
theorem rt_Mo_fear : ab_ret y_Mo_fear = (Option.some FieldType.int) := by decide +kernel
theorem mi_Mo_fear : ab_mi y_Mo_fear = some (2, false, 8, false) := by decide +kernel
theorem ow_Mo_pace : ab_own y_Mo_pace = 8 := by decide +kernel
theorem ml_Mo_pace : ab_ml y_Mo_pace = 3 := by decide +kernel
theorem rt_Mo_pace : ab_ret y_Mo_pace = (Option.some FieldType.int) := by decide +kernel
theorem mi_Mo_pace : ab_mi y_Mo_pace = some (1, false, 8, false) := by decide +kernel
theorem ow_Mo_forgets : ab_own y_Mo_forgets = 8 := by decide +kernel
theorem ml_Mo_forgets : ab_ml y_Mo_forgets = 3 := by decide +kernel
theorem rt_Mo_forgets : ab_ret y_Mo_forgets = (Option.some FieldType.int) := by decide +kernel
theorem mi_Mo_forgets : ab_mi y_Mo_forgets = some (1, false, 8, false) := by decide +kernel
theorem ow_Mo_hears : ab_own y_Mo_hears = 8 := by decide +kernel
theorem ml_Mo_hears : ab_ml y_Mo_hears = 3 := by decide +kernel
theorem rt_Mo_hears : ab_ret y_Mo_hears = none := by decide +kernel
theorem mi_Mo_hears : ab_mi y_Mo_hears = some (2, false, 8, false) := by decide +kernel
theorem ow_Mo_canTell : ab_own y_Mo_canTell = 8 := by decide +kernel
theorem ml_Mo_canTell : ab_ml y_Mo_canTell = 3 := by decide +kernel
theorem rt_Mo_canTell : ab_ret y_Mo_canTell = (Option.some FieldType.boolean) := by decide +kernel
theorem mi_Mo_canTell : ab_mi y_Mo_canTell = some (2, false, 8, false) := by decide +kernel
theorem ow_Mo_telling : ab_own y_Mo_telling = 8 := by decide +kernel
theorem ml_Mo_telling : ab_ml y_Mo_telling = 5 := by decide +kernel
theorem rt_Mo_telling : ab_ret y_Mo_telling = none := by decide +kernel
theorem mi_Mo_telling : ab_mi y_Mo_telling = some (2, false, 8, false) := by decide +kernel
theorem ow_Mo_tells : ab_own y_Mo_tells = 8 := by decide +kernel
theorem ml_Mo_tells : ab_ml y_Mo_tells = 3 := by decide +kernel
theorem rt_Mo_tells : ab_ret y_Mo_tells = (Option.some FieldType.int) := by decide +kernel
theorem mi_Mo_tells : ab_mi y_Mo_tells = some (2, false, 8, false) := by decide +kernel
theorem ow_Mo_drawn : ab_own y_Mo_drawn = 8 := by decide +kernel
theorem ml_Mo_drawn : ab_ml y_Mo_drawn = 2 := by decide +kernel
theorem rt_Mo_drawn : ab_ret y_Mo_drawn = (Option.some FieldType.int) := by decide +kernel
theorem mi_Mo_drawn : ab_mi y_Mo_drawn = some (1, false, 8, false) := by decide +kernel
theorem ow_Mo_loose : ab_own y_Mo_loose = 8 := by decide +kernel
theorem ml_Mo_loose : ab_ml y_Mo_loose = 6 := by decide +kernel
theorem rt_Mo_loose : ab_ret y_Mo_loose = (Option.some FieldType.int) := by decide +kernel
theorem mi_Mo_loose : ab_mi y_Mo_loose = some (1, false, 8, false) := by decide +kernel
theorem ow_Mo_byteAt : ab_own y_Mo_byteAt = 8 := by decide +kernel
theorem ml_Mo_byteAt : ab_ml y_Mo_byteAt = 2 := by decide +kernel
theorem rt_Mo_byteAt : ab_ret y_Mo_byteAt = (Option.some FieldType.int) := by decide +kernel
theorem mi_Mo_byteAt : ab_mi y_Mo_byteAt = some (1, false, 8, false) := by decide +kernel
theorem ow_Mo_isDigit : ab_own y_Mo_isDigit = 8 := by decide +kernel
theorem ml_Mo_isDigit : ab_ml y_Mo_isDigit = 1 := by decide +kernel
theorem rt_Mo_isDigit : ab_ret y_Mo_isDigit = (Option.some FieldType.boolean) := by decide +kernel
theorem mi_Mo_isDigit : ab_mi y_Mo_isDigit = some (1, true, 8, false) := by decide +kernel
theorem ow_Mo_fails : ab_own y_Mo_fails = 8 := by decide +kernel
theorem ml_Mo_fails : ab_ml y_Mo_fails = 1 := by decide +kernel
theorem rt_Mo_fails : ab_ret y_Mo_fails = (Option.some FieldType.int) := by decide +kernel
theorem mi_Mo_fails : ab_mi y_Mo_fails = some (0, false, 8, false) := by decide +kernel
theorem ow_Mo_number : ab_own y_Mo_number = 8 := by decide +kernel
theorem ml_Mo_number : ab_ml y_Mo_number = 3 := by decide +kernel
theorem rt_Mo_number : ab_ret y_Mo_number = (Option.some FieldType.int) := by decide +kernel
theorem mi_Mo_number : ab_mi y_Mo_number = some (0, false, 8, false) := by decide +kernel
theorem ow_Mo_named : ab_own y_Mo_named = 8 := by decide +kernel
theorem ml_Mo_named : ab_ml y_Mo_named = 5 := by decide +kernel
theorem rt_Mo_named : ab_ret y_Mo_named = (Option.some FieldType.int) := by decide +kernel
theorem mi_Mo_named : ab_mi y_Mo_named = some (1, false, 8, false) := by decide +kernel
theorem ow_Mo_factor : ab_own y_Mo_factor = 8 := by decide +kernel
theorem ml_Mo_factor : ab_ml y_Mo_factor = 3 := by decide +kernel
theorem rt_Mo_factor : ab_ret y_Mo_factor = (Option.some FieldType.int) := by decide +kernel
theorem mi_Mo_factor : ab_mi y_Mo_factor = some (0, false, 8, false) := by decide +kernel
theorem ow_Mo_product : ab_own y_Mo_product = 8 := by decide +kernel
theorem ml_Mo_product : ab_ml y_Mo_product = 4 := by decide +kernel
theorem rt_Mo_product : ab_ret y_Mo_product = (Option.some FieldType.int) := by decide +kernel
theorem mi_Mo_product : ab_mi y_Mo_product = some (0, false, 8, false) := by decide +kernel
theorem ow_Mo_sum : ab_own y_Mo_sum = 8 := by decide +kernel
theorem ml_Mo_sum : ab_ml y_Mo_sum = 4 := by decide +kernel
theorem rt_Mo_sum : ab_ret y_Mo_sum = (Option.some FieldType.int) := by decide +kernel
theorem mi_Mo_sum : ab_mi y_Mo_sum = some (0, false, 8, false) := by decide +kernel
theorem ow_Mo_compared : ab_own y_Mo_compared = 8 := by decide +kernel
theorem ml_Mo_compared : ab_ml y_Mo_compared = 5 := by decide +kernel
theorem rt_Mo_compared : ab_ret y_Mo_compared = (Option.some FieldType.int) := by decide +kernel
theorem mi_Mo_compared : ab_mi y_Mo_compared = some (0, false, 8, false) := by decide +kernel
theorem ow_Mo_both : ab_own y_Mo_both = 8 := by decide +kernel
theorem ml_Mo_both : ab_ml y_Mo_both = 3 := by decide +kernel
theorem rt_Mo_both : ab_ret y_Mo_both = (Option.some FieldType.int) := by decide +kernel
theorem mi_Mo_both : ab_mi y_Mo_both = some (0, false, 8, false) := by decide +kernel
theorem ow_Mo_whole : ab_own y_Mo_whole = 8 := by decide +kernel
theorem ml_Mo_whole : ab_ml y_Mo_whole = 3 := by decide +kernel
theorem rt_Mo_whole : ab_ret y_Mo_whole = (Option.some FieldType.int) := by decide +kernel
theorem mi_Mo_whole : ab_mi y_Mo_whole = some (0, false, 8, false) := by decide +kernel
theorem ow_Mo_walks : ab_own y_Mo_walks = 8 := by decide +kernel
theorem ml_Mo_walks : ab_ml y_Mo_walks = 6 := by decide +kernel
theorem rt_Mo_walks : ab_ret y_Mo_walks = (Option.some FieldType.int) := by decide +kernel
theorem mi_Mo_walks : ab_mi y_Mo_walks = some (4, false, 8, false) := by decide +kernel
theorem ow_Mo_lawOf : ab_own y_Mo_lawOf = 8 := by decide +kernel
theorem ml_Mo_lawOf : ab_ml y_Mo_lawOf = 6 := by decide +kernel
theorem rt_Mo_lawOf : ab_ret y_Mo_lawOf = (Option.some FieldType.int) := by decide +kernel
theorem mi_Mo_lawOf : ab_mi y_Mo_lawOf = some (4, false, 8, false) := by decide +kernel
theorem ow_Mo_law : ab_own y_Mo_law = 8 := by decide +kernel
theorem ml_Mo_law : ab_ml y_Mo_law = 5 := by decide +kernel
theorem rt_Mo_law : ab_ret y_Mo_law = (Option.some FieldType.int) := by decide +kernel
theorem mi_Mo_law : ab_mi y_Mo_law = some (4, false, 8, false) := by decide +kernel
theorem ow_Mo_feed : ab_own y_Mo_feed = 8 := by decide +kernel
theorem ml_Mo_feed : ab_ml y_Mo_feed = 5 := by decide +kernel
theorem rt_Mo_feed : ab_ret y_Mo_feed = (Option.some FieldType.int) := by decide +kernel
theorem mi_Mo_feed : ab_mi y_Mo_feed = some (2, false, 8, false) := by decide +kernel
theorem ow_Mo_text : ab_own y_Mo_text = 8 := by decide +kernel
theorem ml_Mo_text : ab_ml y_Mo_text = 5 := by decide +kernel
theorem rt_Mo_text : ab_ret y_Mo_text = (Option.some FieldType.int) := by decide +kernel
theorem mi_Mo_text : ab_mi y_Mo_text = some (1, false, 8, false) := by decide +kernel
theorem ow_Mo_neededOf : ab_own y_Mo_neededOf = 8 := by decide +kernel
theorem ml_Mo_neededOf : ab_ml y_Mo_neededOf = 4 := by decide +kernel
theorem rt_Mo_neededOf : ab_ret y_Mo_neededOf = (Option.some FieldType.int) := by decide +kernel
theorem mi_Mo_neededOf : ab_mi y_Mo_neededOf = some (2, false, 8, false) := by decide +kernel
theorem ow_Mo_needed : ab_own y_Mo_needed = 8 := by decide +kernel
theorem ml_Mo_needed : ab_ml y_Mo_needed = 4 := by decide +kernel
theorem rt_Mo_needed : ab_ret y_Mo_needed = (Option.some FieldType.int) := by decide +kernel
theorem mi_Mo_needed : ab_mi y_Mo_needed = some (2, false, 8, false) := by decide +kernel
theorem ow_Mo_coachAt : ab_own y_Mo_coachAt = 8 := by decide +kernel
theorem ml_Mo_coachAt : ab_ml y_Mo_coachAt = 4 := by decide +kernel
theorem rt_Mo_coachAt : ab_ret y_Mo_coachAt = (Option.some FieldType.int) := by decide +kernel
theorem mi_Mo_coachAt : ab_mi y_Mo_coachAt = some (1, false, 8, false) := by decide +kernel
theorem ow_Mo_coach : ab_own y_Mo_coach = 8 := by decide +kernel
theorem ml_Mo_coach : ab_ml y_Mo_coach = 2 := by decide +kernel
theorem rt_Mo_coach : ab_ret y_Mo_coach = (Option.some FieldType.int) := by decide +kernel
theorem mi_Mo_coach : ab_mi y_Mo_coach = some (1, false, 8, false) := by decide +kernel
theorem ow_Mo_isInTime : ab_own y_Mo_isInTime = 8 := by decide +kernel
theorem ml_Mo_isInTime : ab_ml y_Mo_isInTime = 5 := by decide +kernel
theorem rt_Mo_isInTime : ab_ret y_Mo_isInTime = (Option.some FieldType.boolean) := by decide +kernel
theorem mi_Mo_isInTime : ab_mi y_Mo_isInTime = some (1, false, 8, false) := by decide +kernel
theorem ow_Mo_gain : ab_own y_Mo_gain = 8 := by decide +kernel
theorem ml_Mo_gain : ab_ml y_Mo_gain = 8 := by decide +kernel
theorem rt_Mo_gain : ab_ret y_Mo_gain = (Option.some FieldType.int) := by decide +kernel
theorem mi_Mo_gain : ab_mi y_Mo_gain = some (2, false, 8, false) := by decide +kernel
theorem ow_Mo_byTurns : ab_own y_Mo_byTurns = 8 := by decide +kernel
theorem ml_Mo_byTurns : ab_ml y_Mo_byTurns = 8 := by decide +kernel
theorem rt_Mo_byTurns : ab_ret y_Mo_byTurns = (Option.some FieldType.int) := by decide +kernel
theorem mi_Mo_byTurns : ab_mi y_Mo_byTurns = some (3, false, 8, false) := by decide +kernel
theorem ow_Mo_turns : ab_own y_Mo_turns = 8 := by decide +kernel
theorem ml_Mo_turns : ab_ml y_Mo_turns = 4 := by decide +kernel
theorem rt_Mo_turns : ab_ret y_Mo_turns = (Option.some FieldType.int) := by decide +kernel
theorem mi_Mo_turns : ab_mi y_Mo_turns = some (3, false, 8, false) := by decide +kernel
theorem ow_Mo_isSheet : ab_own y_Mo_isSheet = 8 := by decide +kernel
theorem ml_Mo_isSheet : ab_ml y_Mo_isSheet = 1 := by decide +kernel
theorem rt_Mo_isSheet : ab_ret y_Mo_isSheet = (Option.some FieldType.boolean) := by decide +kernel
theorem mi_Mo_isSheet : ab_mi y_Mo_isSheet = some (1, true, 8, false) := by decide +kernel
theorem ow_Mo_saySo : ab_own y_Mo_saySo = 8 := by decide +kernel
theorem ml_Mo_saySo : ab_ml y_Mo_saySo = 4 := by decide +kernel
theorem rt_Mo_saySo : ab_ret y_Mo_saySo = (Option.some FieldType.boolean) := by decide +kernel
theorem mi_Mo_saySo : ab_mi y_Mo_saySo = some (1, false, 8, false) := by decide +kernel
theorem ow_Mo_one : ab_own y_Mo_one = 8 := by decide +kernel
theorem ml_Mo_one : ab_ml y_Mo_one = 7 := by decide +kernel
theorem rt_Mo_one : ab_ret y_Mo_one = (Option.some FieldType.int) := by decide +kernel
theorem mi_Mo_one : ab_mi y_Mo_one = some (2, false, 8, false) := by decide +kernel
theorem ow_Mo_fears : ab_own y_Mo_fears = 8 := by decide +kernel
theorem ml_Mo_fears : ab_ml y_Mo_fears = 10 := by decide +kernel
theorem rt_Mo_fears : ab_ret y_Mo_fears = (Option.some FieldType.int) := by decide +kernel
theorem mi_Mo_fears : ab_mi y_Mo_fears = some (2, false, 8, false) := by decide +kernel
theorem ow_Mo_silence : ab_own y_Mo_silence = 8 := by decide +kernel
theorem ml_Mo_silence : ab_ml y_Mo_silence = 5 := by decide +kernel
theorem rt_Mo_silence : ab_ret y_Mo_silence = (Option.some FieldType.int) := by decide +kernel
theorem mi_Mo_silence : ab_mi y_Mo_silence = some (2, false, 8, false) := by decide +kernel
theorem ow_Mo_odds : ab_own y_Mo_odds = 8 := by decide +kernel
theorem ml_Mo_odds : ab_ml y_Mo_odds = 8 := by decide +kernel
theorem rt_Mo_odds : ab_ret y_Mo_odds = (Option.some FieldType.long) := by decide +kernel
theorem mi_Mo_odds : ab_mi y_Mo_odds = some (2, false, 8, false) := by decide +kernel
theorem ow_Mo_seed : ab_own y_Mo_seed = 8 := by decide +kernel
theorem ml_Mo_seed : ab_ml y_Mo_seed = 3 := by decide +kernel
theorem rt_Mo_seed : ab_ret y_Mo_seed = (Option.some FieldType.int) := by decide +kernel
theorem mi_Mo_seed : ab_mi y_Mo_seed = some (1, false, 8, false) := by decide +kernel
theorem ow_Mo_ran : ab_own y_Mo_ran = 8 := by decide +kernel
theorem ml_Mo_ran : ab_ml y_Mo_ran = 2 := by decide +kernel
theorem rt_Mo_ran : ab_ret y_Mo_ran = none := by decide +kernel
theorem mi_Mo_ran : ab_mi y_Mo_ran = some (1, false, 8, false) := by decide +kernel
theorem ow_Mo_hearsIn : ab_own y_Mo_hearsIn = 8 := by decide +kernel
theorem ml_Mo_hearsIn : ab_ml y_Mo_hearsIn = 3 := by decide +kernel
theorem rt_Mo_hearsIn : ab_ret y_Mo_hearsIn = (Option.some FieldType.int) := by decide +kernel
theorem mi_Mo_hearsIn : ab_mi y_Mo_hearsIn = some (2, false, 8, false) := by decide +kernel
theorem ow_Mo_fearsIn : ab_own y_Mo_fearsIn = 8 := by decide +kernel
theorem ml_Mo_fearsIn : ab_ml y_Mo_fearsIn = 3 := by decide +kernel
theorem rt_Mo_fearsIn : ab_ret y_Mo_fearsIn = (Option.some FieldType.int) := by decide +kernel
theorem mi_Mo_fearsIn : ab_mi y_Mo_fearsIn = some (2, false, 8, false) := by decide +kernel
theorem ow_Mo_saysIn : ab_own y_Mo_saysIn = 8 := by decide +kernel
theorem ml_Mo_saysIn : ab_ml y_Mo_saysIn = 4 := by decide +kernel
theorem rt_Mo_saysIn : ab_ret y_Mo_saysIn = (Option.some FieldType.int) := by decide +kernel
theorem mi_Mo_saysIn : ab_mi y_Mo_saysIn = some (2, false, 8, false) := by decide +kernel
theorem ow_Mo_tellsIn : ab_own y_Mo_tellsIn = 8 := by decide +kernel
theorem ml_Mo_tellsIn : ab_ml y_Mo_tellsIn = 4 := by decide +kernel
theorem rt_Mo_tellsIn : ab_ret y_Mo_tellsIn = (Option.some FieldType.int) := by decide +kernel
theorem mi_Mo_tellsIn : ab_mi y_Mo_tellsIn = some (2, false, 8, false) := by decide +kernel
theorem ow_Mo_voice : ab_own y_Mo_voice = 8 := by decide +kernel
theorem ml_Mo_voice : ab_ml y_Mo_voice = 4 := by decide +kernel
theorem rt_Mo_voice : ab_ret y_Mo_voice = (Option.some FieldType.int) := by decide +kernel
theorem mi_Mo_voice : ab_mi y_Mo_voice = some (3, false, 8, false) := by decide +kernel
theorem ow_Mo_trace : ab_own y_Mo_trace = 8 := by decide +kernel
theorem ml_Mo_trace : ab_ml y_Mo_trace = 2 := by decide +kernel
theorem rt_Mo_trace : ab_ret y_Mo_trace = (Option.some FieldType.int) := by decide +kernel
theorem mi_Mo_trace : ab_mi y_Mo_trace = some (1, false, 8, false) := by decide +kernel
theorem ow_Mo_narrow : ab_own y_Mo_narrow = 8 := by decide +kernel
theorem ml_Mo_narrow : ab_ml y_Mo_narrow = 2 := by decide +kernel
theorem rt_Mo_narrow : ab_ret y_Mo_narrow = (Option.some FieldType.int) := by decide +kernel
theorem mi_Mo_narrow : ab_mi y_Mo_narrow = some (2, true, 8, false) := by decide +kernel
theorem ow_Mo_sheet : ab_own y_Mo_sheet = 8 := by decide +kernel
theorem ml_Mo_sheet : ab_ml y_Mo_sheet = 5 := by decide +kernel
theorem rt_Mo_sheet : ab_ret y_Mo_sheet = (Option.some FieldType.int) := by decide +kernel
theorem mi_Mo_sheet : ab_mi y_Mo_sheet = some (3, false, 8, false) := by decide +kernel
theorem ow_Mo_put : ab_own y_Mo_put = 8 := by decide +kernel
theorem ml_Mo_put : ab_ml y_Mo_put = 4 := by decide +kernel
theorem rt_Mo_put : ab_ret y_Mo_put = (Option.some FieldType.int) := by decide +kernel
theorem mi_Mo_put : ab_mi y_Mo_put = some (3, false, 8, false) := by decide +kernel
theorem ow_Mo_move : ab_own y_Mo_move = 8 := by decide +kernel
theorem ml_Mo_move : ab_ml y_Mo_move = 7 := by decide +kernel
theorem rt_Mo_move : ab_ret y_Mo_move = (Option.some FieldType.int) := by decide +kernel
theorem mi_Mo_move : ab_mi y_Mo_move = some (5, false, 8, false) := by decide +kernel
theorem ow_Mo_acres : ab_own y_Mo_acres = 8 := by decide +kernel
theorem ml_Mo_acres : ab_ml y_Mo_acres = 3 := by decide +kernel
theorem rt_Mo_acres : ab_ret y_Mo_acres = (Option.some FieldType.int) := by decide +kernel
theorem mi_Mo_acres : ab_mi y_Mo_acres = some (1, false, 8, false) := by decide +kernel
theorem ow_Mo_judge : ab_own y_Mo_judge = 8 := by decide +kernel
theorem ml_Mo_judge : ab_ml y_Mo_judge = 3 := by decide +kernel
theorem rt_Mo_judge : ab_ret y_Mo_judge = (Option.some FieldType.int) := by decide +kernel
theorem mi_Mo_judge : ab_mi y_Mo_judge = some (1, false, 8, false) := by decide +kernel
theorem ow_Mo_image : ab_own y_Mo_image = 8 := by decide +kernel
theorem ml_Mo_image : ab_ml y_Mo_image = 1 := by decide +kernel
theorem rt_Mo_image : ab_ret y_Mo_image = (Option.some FieldType.int) := by decide +kernel
theorem mi_Mo_image : ab_mi y_Mo_image = some (0, false, 8, false) := by decide +kernel
theorem ow_Mo_restore : ab_own y_Mo_restore = 8 := by decide +kernel
theorem ml_Mo_restore : ab_ml y_Mo_restore = 1 := by decide +kernel
theorem rt_Mo_restore : ab_ret y_Mo_restore = (Option.some FieldType.int) := by decide +kernel
theorem mi_Mo_restore : ab_mi y_Mo_restore = some (0, false, 8, false) := by decide +kernel
theorem ow_Mo_tell : ab_own y_Mo_tell = 8 := by decide +kernel
theorem ml_Mo_tell : ab_ml y_Mo_tell = 2 := by decide +kernel
theorem rt_Mo_tell : ab_ret y_Mo_tell = (Option.some FieldType.int) := by decide +kernel
theorem mi_Mo_tell : ab_mi y_Mo_tell = some (1, false, 8, false) := by decide +kernel
theorem ow_Mo_check : ab_own y_Mo_check = 8 := by decide +kernel
theorem ml_Mo_check : ab_ml y_Mo_check = 3 := by decide +kernel
theorem rt_Mo_check : ab_ret y_Mo_check = (Option.some FieldType.int) := by decide +kernel
theorem mi_Mo_check : ab_mi y_Mo_check = some (0, false, 8, false) := by decide +kernel
theorem ow_Mo_count : ab_own y_Mo_count = 8 := by decide +kernel
theorem ml_Mo_count : ab_ml y_Mo_count = 5 := by decide +kernel
theorem rt_Mo_count : ab_ret y_Mo_count = (Option.some FieldType.int) := by decide +kernel
theorem mi_Mo_count : ab_mi y_Mo_count = some (1, false, 8, false) := by decide +kernel
theorem ow_Mo_told : ab_own y_Mo_told = 8 := by decide +kernel
theorem ml_Mo_told : ab_ml y_Mo_told = 2 := by decide +kernel
theorem rt_Mo_told : ab_ret y_Mo_told = (Option.some FieldType.int) := by decide +kernel
theorem mi_Mo_told : ab_mi y_Mo_told = some (1, false, 8, false) := by decide +kernel
theorem fl_0_9 : ab_fd ab_FL 0 9 = some (0, 1) := by decide +kernel
theorem fl_0_15 : ab_fd ab_FL 0 15 = some (0, 2) := by decide +kernel
theorem fl_0_19 : ab_fd ab_FL 0 19 = some (0, 3) := by decide +kernel
theorem fl_0_22 : ab_fd ab_FL 0 22 = some (0, 4) := by decide +kernel
theorem fl_0_25 : ab_fd ab_FL 0 25 = some (0, 5) := by decide +kernel
theorem fl_0_28 : ab_fd ab_FL 0 28 = some (0, 6) := by decide +kernel
theorem fl_0_31 : ab_fd ab_FL 0 31 = some (0, 7) := by decide +kernel
theorem fl_0_34 : ab_fd ab_FL 0 34 = some (0, 0) := by decide +kernel
theorem fl_1_11 : ab_fd ab_FL 1 11 = some (1, 0) := by decide +kernel
theorem fl_1_17 : ab_fd ab_FL 1 17 = some (1, 1) := by decide +kernel
theorem fl_1_28 : ab_fd ab_FL 1 28 = some (1, 2) := by decide +kernel
theorem fl_1_34 : ab_fd ab_FL 1 34 = some (1, 3) := by decide +kernel
theorem fl_1_37 : ab_fd ab_FL 1 37 = some (1, 4) := by decide +kernel
theorem fl_1_40 : ab_fd ab_FL 1 40 = some (1, 5) := by decide +kernel
theorem fl_1_43 : ab_fd ab_FL 1 43 = some (1, 6) := by decide +kernel
theorem fl_1_46 : ab_fd ab_FL 1 46 = some (1, 7) := by decide +kernel
theorem fl_1_50 : ab_fd ab_FL 1 50 = some (1, 8) := by decide +kernel
theorem fl_1_53 : ab_fd ab_FL 1 53 = some (1, 9) := by decide +kernel
theorem fl_1_56 : ab_fd ab_FL 1 56 = some (1, 10) := by decide +kernel
theorem fl_1_59 : ab_fd ab_FL 1 59 = some (1, 11) := by decide +kernel
theorem fl_1_62 : ab_fd ab_FL 1 62 = some (1, 12) := by decide +kernel
theorem fl_1_65 : ab_fd ab_FL 1 65 = some (1, 13) := by decide +kernel
theorem fl_1_81 : ab_fd ab_FL 1 81 = some (2, 1) := by decide +kernel
theorem fl_1_84 : ab_fd ab_FL 1 84 = some (2, 3) := by decide +kernel
theorem fl_1_101 : ab_fd ab_FL 1 101 = some (0, 2) := by decide +kernel
theorem fl_1_116 : ab_fd ab_FL 1 116 = some (0, 1) := by decide +kernel
theorem fl_1_130 : ab_fd ab_FL 1 130 = some (0, 4) := by decide +kernel
theorem fl_1_133 : ab_fd ab_FL 1 133 = some (0, 3) := by decide +kernel
theorem fl_1_143 : ab_fd ab_FL 1 143 = some (0, 5) := by decide +kernel
theorem fl_1_150 : ab_fd ab_FL 1 150 = some (4, 2) := by decide +kernel
theorem fl_1_155 : ab_fd ab_FL 1 155 = some (4, 0) := by decide +kernel
theorem fl_2_9 : ab_fd ab_FL 2 9 = some (2, 1) := by decide +kernel
theorem fl_2_15 : ab_fd ab_FL 2 15 = some (2, 2) := by decide +kernel
theorem fl_2_18 : ab_fd ab_FL 2 18 = some (2, 3) := by decide +kernel
theorem fl_2_22 : ab_fd ab_FL 2 22 = some (2, 0) := by decide +kernel
theorem fl_3_9 : ab_fd ab_FL 3 9 = some (3, 0) := by decide +kernel
theorem fl_3_15 : ab_fd ab_FL 3 15 = some (3, 1) := by decide +kernel
theorem fl_3_21 : ab_fd ab_FL 3 21 = some (3, 3) := by decide +kernel
theorem fl_3_25 : ab_fd ab_FL 3 25 = some (3, 4) := by decide +kernel
theorem fl_3_28 : ab_fd ab_FL 3 28 = some (3, 5) := by decide +kernel
theorem fl_3_31 : ab_fd ab_FL 3 31 = some (3, 6) := by decide +kernel
theorem fl_3_34 : ab_fd ab_FL 3 34 = some (3, 7) := by decide +kernel
theorem fl_3_38 : ab_fd ab_FL 3 38 = some (3, 2) := by decide +kernel
theorem fl_4_9 : ab_fd ab_FL 4 9 = some (4, 0) := by decide +kernel
theorem fl_4_15 : ab_fd ab_FL 4 15 = some (4, 1) := by decide +kernel
theorem fl_4_19 : ab_fd ab_FL 4 19 = some (4, 2) := by decide +kernel
theorem fl_5_9 : ab_fd ab_FL 5 9 = some (5, 0) := by decide +kernel
theorem fl_5_15 : ab_fd ab_FL 5 15 = some (5, 1) := by decide +kernel
theorem fl_5_20 : ab_fd ab_FL 5 20 = some (5, 3) := by decide +kernel
theorem fl_5_24 : ab_fd ab_FL 5 24 = some (5, 4) := by decide +kernel
theorem fl_5_28 : ab_fd ab_FL 5 28 = some (5, 5) := by decide +kernel
theorem fl_5_31 : ab_fd ab_FL 5 31 = some (5, 2) := by decide +kernel
theorem fl_5_38 : ab_fd ab_FL 5 38 = some (1, 0) := by decide +kernel
theorem fl_5_54 : ab_fd ab_FL 5 54 = some (1, 7) := by decide +kernel
theorem fl_5_64 : ab_fd ab_FL 5 64 = some (1, 8) := by decide +kernel
theorem fl_5_67 : ab_fd ab_FL 5 67 = some (0, 5) := by decide +kernel
theorem fl_5_70 : ab_fd ab_FL 5 70 = some (0, 4) := by decide +kernel
theorem fl_5_90 : ab_fd ab_FL 5 90 = some (1, 1) := by decide +kernel
theorem fl_5_103 : ab_fd ab_FL 5 103 = some (0, 3) := by decide +kernel
theorem fl_6_11 : ab_fd ab_FL 6 11 = some (6, 0) := by decide +kernel
theorem fl_6_15 : ab_fd ab_FL 6 15 = some (6, 1) := by decide +kernel
theorem fl_6_19 : ab_fd ab_FL 6 19 = some (6, 2) := by decide +kernel
theorem fl_6_22 : ab_fd ab_FL 6 22 = some (6, 3) := by decide +kernel
theorem fl_6_25 : ab_fd ab_FL 6 25 = some (6, 4) := by decide +kernel
theorem fl_6_28 : ab_fd ab_FL 6 28 = some (0, 2) := by decide +kernel
theorem fl_6_31 : ab_fd ab_FL 6 31 = some (0, 3) := by decide +kernel
theorem fl_6_32 : ab_fd ab_FL 6 32 = some (0, 0) := by decide +kernel
theorem fl_7_10 : ab_fd ab_FL 7 10 = some (7, 0) := by decide +kernel
theorem fl_7_16 : ab_fd ab_FL 7 16 = some (7, 1) := by decide +kernel
theorem fl_7_21 : ab_fd ab_FL 7 21 = some (1, 4) := by decide +kernel
theorem fl_7_28 : ab_fd ab_FL 7 28 = some (7, 2) := by decide +kernel
theorem fl_7_37 : ab_fd ab_FL 7 37 = some (7, 3) := by decide +kernel
theorem fl_7_44 : ab_fd ab_FL 7 44 = some (7, 4) := by decide +kernel
theorem fl_7_50 : ab_fd ab_FL 7 50 = some (7, 5) := by decide +kernel
theorem fl_7_55 : ab_fd ab_FL 7 55 = some (7, 6) := by decide +kernel
theorem fl_7_58 : ab_fd ab_FL 7 58 = some (7, 7) := by decide +kernel
theorem fl_7_74 : ab_fd ab_FL 7 74 = some (1, 7) := by decide +kernel
theorem fl_7_77 : ab_fd ab_FL 7 77 = some (1, 0) := by decide +kernel
theorem fl_7_87 : ab_fd ab_FL 7 87 = some (0, 0) := by decide +kernel
theorem fl_7_93 : ab_fd ab_FL 7 93 = some (0, 2) := by decide +kernel
theorem fl_7_96 : ab_fd ab_FL 7 96 = some (0, 3) := by decide +kernel
theorem fl_7_99 : ab_fd ab_FL 7 99 = some (0, 4) := by decide +kernel
theorem fl_7_102 : ab_fd ab_FL 7 102 = some (0, 5) := by decide +kernel
theorem fl_7_105 : ab_fd ab_FL 7 105 = some (0, 6) := by decide +kernel
theorem fl_7_108 : ab_fd ab_FL 7 108 = some (0, 7) := by decide +kernel
theorem fl_7_128 : ab_fd ab_FL 7 128 = some (0, 1) := by decide +kernel
theorem fl_7_131 : ab_fd ab_FL 7 131 = some (1, 1) := by decide +kernel
theorem fl_7_147 : ab_fd ab_FL 7 147 = some (1, 8) := by decide +kernel
theorem fl_7_162 : ab_fd ab_FL 7 162 = some (1, 12) := by decide +kernel
theorem fl_7_165 : ab_fd ab_FL 7 165 = some (1, 2) := by decide +kernel
theorem fl_7_169 : ab_fd ab_FL 7 169 = some (1, 3) := by decide +kernel
theorem fl_7_172 : ab_fd ab_FL 7 172 = some (2, 0) := by decide +kernel
theorem fl_7_182 : ab_fd ab_FL 7 182 = some (3, 0) := by decide +kernel
theorem fl_7_185 : ab_fd ab_FL 7 185 = some (3, 1) := by decide +kernel
theorem fl_7_217 : ab_fd ab_FL 7 217 = some (4, 1) := by decide +kernel
theorem fl_7_224 : ab_fd ab_FL 7 224 = some (5, 0) := by decide +kernel
theorem fl_7_227 : ab_fd ab_FL 7 227 = some (5, 1) := by decide +kernel
theorem fl_7_237 : ab_fd ab_FL 7 237 = some (1, 11) := by decide +kernel
theorem fl_7_244 : ab_fd ab_FL 7 244 = some (6, 1) := by decide +kernel
theorem fl_7_247 : ab_fd ab_FL 7 247 = some (6, 0) := by decide +kernel
theorem fl_7_251 : ab_fd ab_FL 7 251 = some (4, 2) := by decide +kernel
theorem fl_7_254 : ab_fd ab_FL 7 254 = some (4, 0) := by decide +kernel
theorem fl_7_280 : ab_fd ab_FL 7 280 = some (1, 9) := by decide +kernel
theorem fl_7_283 : ab_fd ab_FL 7 283 = some (1, 13) := by decide +kernel
theorem fl_7_286 : ab_fd ab_FL 7 286 = some (1, 5) := by decide +kernel
theorem fl_7_289 : ab_fd ab_FL 7 289 = some (1, 10) := by decide +kernel
theorem fl_8_7 : ab_fd ab_FL 8 7 = some (8, 0) := by decide +kernel
theorem fl_8_13 : ab_fd ab_FL 8 13 = some (8, 1) := by decide +kernel
theorem fl_8_16 : ab_fd ab_FL 8 16 = some (8, 2) := by decide +kernel
theorem fl_8_19 : ab_fd ab_FL 8 19 = some (8, 3) := by decide +kernel
theorem fl_8_22 : ab_fd ab_FL 8 22 = some (8, 6) := by decide +kernel
theorem fl_8_25 : ab_fd ab_FL 8 25 = some (8, 7) := by decide +kernel
theorem fl_8_29 : ab_fd ab_FL 8 29 = some (8, 8) := by decide +kernel
theorem fl_8_32 : ab_fd ab_FL 8 32 = some (8, 17) := by decide +kernel
theorem fl_8_35 : ab_fd ab_FL 8 35 = some (8, 18) := by decide +kernel
theorem fl_8_38 : ab_fd ab_FL 8 38 = some (8, 19) := by decide +kernel
theorem fl_8_41 : ab_fd ab_FL 8 41 = some (8, 20) := by decide +kernel
theorem fl_8_44 : ab_fd ab_FL 8 44 = some (8, 21) := by decide +kernel
theorem fl_8_47 : ab_fd ab_FL 8 47 = some (8, 22) := by decide +kernel
theorem fl_8_50 : ab_fd ab_FL 8 50 = some (8, 23) := by decide +kernel
theorem fl_8_133 : ab_fd ab_FL 8 133 = some (8, 11) := by decide +kernel
theorem fl_8_136 : ab_fd ab_FL 8 136 = some (8, 9) := by decide +kernel
theorem fl_8_139 : ab_fd ab_FL 8 139 = some (8, 16) := by decide +kernel
theorem fl_8_143 : ab_fd ab_FL 8 143 = some (8, 10) := by decide +kernel
theorem fl_8_156 : ab_fd ab_FL 8 156 = some (8, 13) := by decide +kernel
theorem fl_8_159 : ab_fd ab_FL 8 159 = some (8, 14) := by decide +kernel
theorem fl_8_162 : ab_fd ab_FL 8 162 = some (8, 15) := by decide +kernel
theorem fl_8_171 : ab_fd ab_FL 8 171 = some (8, 12) := by decide +kernel
theorem fl_8_224 : ab_fd ab_FL 8 224 = some (8, 24) := by decide +kernel
theorem fl_8_230 : ab_fd ab_FL 8 230 = some (8, 26) := by decide +kernel
theorem fl_8_236 : ab_fd ab_FL 8 236 = some (8, 27) := by decide +kernel
theorem fl_8_242 : ab_fd ab_FL 8 242 = some (8, 25) := by decide +kernel
theorem fl_8_254 : ab_fd ab_FL 8 254 = some (8, 4) := by decide +kernel
theorem fl_8_257 : ab_fd ab_FL 8 257 = some (8, 5) := by decide +kernel
theorem fl_10_9 : ab_fd ab_FL 10 9 = some (10, 0) := by decide +kernel
theorem fl_10_15 : ab_fd ab_FL 10 15 = some (10, 1) := by decide +kernel
theorem lk_0_3 : ab_fd ab_LK 0 3 = some (998, 0) := by decide +kernel
theorem lk_0_37 : ab_fd ab_LK 0 37 = some (y_Fi_loseAllTold, 0) := by decide +kernel
theorem lk_0_40 : ab_fd ab_LK 0 40 = some (999, 0) := by decide +kernel
theorem lk_0_46 : ab_fd ab_LK 0 46 = some (y_Ja_fill, 0) := by decide +kernel
theorem lk_0_52 : ab_fd ab_LK 0 52 = some (y_Fo_isOwner, 1) := by decide +kernel
theorem lk_0_56 : ab_fd ab_LK 0 56 = some (y_Fi_hears, 0) := by decide +kernel
theorem lk_0_60 : ab_fd ab_LK 0 60 = some (y_Fi_greatestBy, 0) := by decide +kernel
theorem lk_1_3 : ab_fd ab_LK 1 3 = some (998, 0) := by decide +kernel
theorem lk_1_25 : ab_fd ab_LK 1 25 = some (y_Lw_init, 0) := by decide +kernel
theorem lk_1_68 : ab_fd ab_LK 1 68 = some (y_Fi_init, 0) := by decide +kernel
theorem lk_1_71 : ab_fd ab_LK 1 71 = some (y_Lw_beginAsTitle, 0) := by decide +kernel
theorem lk_1_74 : ab_fd ab_LK 1 74 = some (y_Lw_beginAsRent, 0) := by decide +kernel
theorem lk_1_77 : ab_fd ab_LK 1 77 = some (y_Fi_copyFrom, 0) := by decide +kernel
theorem lk_1_87 : ab_fd ab_LK 1 87 = some (y_Lw_takeOver, 0) := by decide +kernel
theorem lk_1_91 : ab_fd ab_LK 1 91 = some (999, 0) := by decide +kernel
theorem lk_1_97 : ab_fd ab_LK 1 97 = some (y_Fo_isWithin, 1) := by decide +kernel
theorem lk_1_104 : ab_fd ab_LK 1 104 = some (y_Fi_saysItself, 0) := by decide +kernel
theorem lk_1_108 : ab_fd ab_LK 1 108 = some (y_La_says, 0) := by decide +kernel
theorem lk_1_112 : ab_fd ab_LK 1 112 = some (y_La_hasTitle, 0) := by decide +kernel
theorem lk_1_119 : ab_fd ab_LK 1 119 = some (y_Fi_toldByAll, 0) := by decide +kernel
theorem lk_1_123 : ab_fd ab_LK 1 123 = some (y_Lw_work, 0) := by decide +kernel
theorem lk_1_127 : ab_fd ab_LK 1 127 = some (y_La_ownerOf, 0) := by decide +kernel
theorem lk_1_136 : ab_fd ab_LK 1 136 = some (y_Fo_heldRent, 1) := by decide +kernel
theorem lk_1_140 : ab_fd ab_LK 1 140 = some (y_La_rentOf, 0) := by decide +kernel
theorem lk_1_146 : ab_fd ab_LK 1 146 = some (y_Fi_listen, 0) := by decide +kernel
theorem lk_2_3 : ab_fd ab_LK 2 3 = some (998, 0) := by decide +kernel
theorem lk_2_26 : ab_fd ab_LK 2 26 = some (997, 0) := by decide +kernel
theorem lk_2_32 : ab_fd ab_LK 2 32 = some (999, 0) := by decide +kernel
theorem lk_2_38 : ab_fd ab_LK 2 38 = some (y_Lw_join, 0) := by decide +kernel
theorem lk_3_3 : ab_fd ab_LK 3 3 = some (998, 0) := by decide +kernel
theorem lk_3_41 : ab_fd ab_LK 3 41 = some (997, 0) := by decide +kernel
theorem lk_3_47 : ab_fd ab_LK 3 47 = some (y_Re_readLevel, 0) := by decide +kernel
theorem lk_3_51 : ab_fd ab_LK 3 51 = some (y_Re_readQ, 0) := by decide +kernel
theorem lk_3_54 : ab_fd ab_LK 3 54 = some (y_Re_joinsOf, 0) := by decide +kernel
theorem lk_3_58 : ab_fd ab_LK 3 58 = some (y_Re_isNextOf, 0) := by decide +kernel
theorem lk_3_62 : ab_fd ab_LK 3 62 = some (y_Re_take, 0) := by decide +kernel
theorem lk_3_68 : ab_fd ab_LK 3 68 = some (y_Re_emit, 0) := by decide +kernel
theorem lk_3_83 : ab_fd ab_LK 3 83 = some (y_Re_readNumber, 0) := by decide +kernel
theorem lk_3_86 : ab_fd ab_LK 3 86 = some (y_Js_indexOf, 0) := by decide +kernel
theorem lk_3_94 : ab_fd ab_LK 3 94 = some (y_Re_readOpened, 0) := by decide +kernel
theorem lk_4_3 : ab_fd ab_LK 4 3 = some (998, 0) := by decide +kernel
theorem lk_4_22 : ab_fd ab_LK 4 22 = some (y_Ja_fill, 0) := by decide +kernel
theorem lk_5_3 : ab_fd ab_LK 5 3 = some (998, 0) := by decide +kernel
theorem lk_5_35 : ab_fd ab_LK 5 35 = some (y_Fi_init, 0) := by decide +kernel
theorem lk_5_43 : ab_fd ab_LK 5 43 = some (y_Fi_copyFrom, 0) := by decide +kernel
theorem lk_5_47 : ab_fd ab_LK 5 47 = some (y_La_ownerOf, 0) := by decide +kernel
theorem lk_5_51 : ab_fd ab_LK 5 51 = some (y_Fi_listen, 0) := by decide +kernel
theorem lk_5_57 : ab_fd ab_LK 5 57 = some (y_Th_leastTellings, 0) := by decide +kernel
theorem lk_5_60 : ab_fd ab_LK 5 60 = some (y_Th_acresBy, 0) := by decide +kernel
theorem lk_5_73 : ab_fd ab_LK 5 73 = some (y_Th_bestLead, 0) := by decide +kernel
theorem lk_5_77 : ab_fd ab_LK 5 77 = some (y_Th_leadNow, 0) := by decide +kernel
theorem lk_5_81 : ab_fd ab_LK 5 81 = some (996, 0) := by decide +kernel
theorem lk_5_86 : ab_fd ab_LK 5 86 = some (y_Th_noteIfSaid, 0) := by decide +kernel
theorem lk_5_93 : ab_fd ab_LK 5 93 = some (999, 0) := by decide +kernel
theorem lk_5_99 : ab_fd ab_LK 5 99 = some (y_La_saysAsIn, 0) := by decide +kernel
theorem lk_6_3 : ab_fd ab_LK 6 3 = some (998, 0) := by decide +kernel
theorem lk_6_35 : ab_fd ab_LK 6 35 = some (y_Vo_body, 0) := by decide +kernel
theorem lk_6_39 : ab_fd ab_LK 6 39 = some (y_Fo_isWithin, 1) := by decide +kernel
theorem lk_6_49 : ab_fd ab_LK 6 49 = some (y_Vo_begin, 0) := by decide +kernel
theorem lk_7_1 : ab_fd ab_LK 7 1 = some (998, 0) := by decide +kernel
theorem lk_7_9 : ab_fd ab_LK 7 9 = some (y_La_init, 0) := by decide +kernel
theorem lk_7_25 : ab_fd ab_LK 7 25 = some (y_Re_init, 0) := by decide +kernel
theorem lk_7_34 : ab_fd ab_LK 7 34 = some (y_Th_init, 0) := by decide +kernel
theorem lk_7_43 : ab_fd ab_LK 7 43 = some (y_Vo_init, 1) := by decide +kernel
theorem lk_7_54 : ab_fd ab_LK 7 54 = some (y_Sh_init, 1) := by decide +kernel
theorem lk_7_62 : ab_fd ab_LK 7 62 = some (y_Fo_isKm, 0) := by decide +kernel
theorem lk_7_66 : ab_fd ab_LK 7 66 = some (y_Fo_isWithin, 0) := by decide +kernel
theorem lk_7_70 : ab_fd ab_LK 7 70 = some (y_Fo_error, 0) := by decide +kernel
theorem lk_7_81 : ab_fd ab_LK 7 81 = some (y_Fi_begin, 0) := by decide +kernel
theorem lk_7_90 : ab_fd ab_LK 7 90 = some (y_La_has, 0) := by decide +kernel
theorem lk_7_111 : ab_fd ab_LK 7 111 = some (y_La_says, 0) := by decide +kernel
theorem lk_7_115 : ab_fd ab_LK 7 115 = some (y_La_ownerOf, 0) := by decide +kernel
theorem lk_7_118 : ab_fd ab_LK 7 118 = some (y_La_rentOf, 0) := by decide +kernel
theorem lk_7_121 : ab_fd ab_LK 7 121 = some (y_Fi_toldByAll, 0) := by decide +kernel
theorem lk_7_125 : ab_fd ab_LK 7 125 = some (y_Fo_isOwner, 0) := by decide +kernel
theorem lk_7_134 : ab_fd ab_LK 7 134 = some (y_La_fieldsOf, 0) := by decide +kernel
theorem lk_7_137 : ab_fd ab_LK 7 137 = some (y_La_acresOf, 0) := by decide +kernel
theorem lk_7_140 : ab_fd ab_LK 7 140 = some (y_La_rentsOf, 0) := by decide +kernel
theorem lk_7_143 : ab_fd ab_LK 7 143 = some (y_Fo_isKindUnder, 0) := by decide +kernel
theorem lk_7_150 : ab_fd ab_LK 7 150 = some (y_Fi_loseAllTold, 0) := by decide +kernel
theorem lk_7_153 : ab_fd ab_LK 7 153 = some (y_La_refuses, 0) := by decide +kernel
theorem lk_7_156 : ab_fd ab_LK 7 156 = some (y_La_hearOut, 0) := by decide +kernel
theorem lk_7_159 : ab_fd ab_LK 7 159 = some (y_La_draw, 0) := by decide +kernel
theorem lk_7_178 : ab_fd ab_LK 7 178 = some (y_Re_faultOf, 0) := by decide +kernel
theorem lk_7_188 : ab_fd ab_LK 7 188 = some (y_Lw_takeOver, 0) := by decide +kernel
theorem lk_7_192 : ab_fd ab_LK 7 192 = some (y_Lw_work, 0) := by decide +kernel
theorem lk_7_196 : ab_fd ab_LK 7 196 = some (y_Fo_heldRent, 0) := by decide +kernel
theorem lk_7_199 : ab_fd ab_LK 7 199 = some (y_Th_leastTellings, 0) := by decide +kernel
theorem lk_7_202 : ab_fd ab_LK 7 202 = some (y_La_coachAt, 0) := by decide +kernel
theorem lk_7_205 : ab_fd ab_LK 7 205 = some (y_Th_bestSet, 0) := by decide +kernel
theorem lk_7_208 : ab_fd ab_LK 7 208 = some (y_Th_acresBy, 0) := by decide +kernel
theorem lk_7_211 : ab_fd ab_LK 7 211 = some (y_Th_leadByTurns, 0) := by decide +kernel
theorem lk_7_214 : ab_fd ab_LK 7 214 = some (y_Fo_isSheet, 0) := by decide +kernel
theorem lk_7_220 : ab_fd ab_LK 7 220 = some (y_Th_seekTelling, 0) := by decide +kernel
theorem lk_7_230 : ab_fd ab_LK 7 230 = some (y_Th_seekFears, 0) := by decide +kernel
theorem lk_7_233 : ab_fd ab_LK 7 233 = some (y_Th_oddsOf, 0) := by decide +kernel
theorem lk_7_240 : ab_fd ab_LK 7 240 = some (y_Vo_speak, 0) := by decide +kernel
theorem lk_7_250 : ab_fd ab_LK 7 250 = some (y_Sh_begin, 0) := by decide +kernel
theorem lk_7_257 : ab_fd ab_LK 7 257 = some (y_Sh_lowestBits, 0) := by decide +kernel
theorem lk_7_260 : ab_fd ab_LK 7 260 = some (y_Sh_holds, 0) := by decide +kernel
theorem lk_7_263 : ab_fd ab_LK 7 263 = some (999, 0) := by decide +kernel
theorem lk_7_269 : ab_fd ab_LK 7 269 = some (997, 0) := by decide +kernel
theorem lk_7_274 : ab_fd ab_LK 7 274 = some (996, 0) := by decide +kernel
theorem lk_7_277 : ab_fd ab_LK 7 277 = some (y_La_copyFrom, 0) := by decide +kernel
theorem lk_7_292 : ab_fd ab_LK 7 292 = some (y_La_toldInAll, 0) := by decide +kernel
theorem lk_8_1 : ab_fd ab_LK 8 1 = some (998, 0) := by decide +kernel
theorem lk_8_54 : ab_fd ab_LK 8 54 = some (y_Mo_in, 0) := by decide +kernel
theorem lk_8_59 : ab_fd ab_LK 8 59 = some (y_Mo_errs, 0) := by decide +kernel
theorem lk_8_64 : ab_fd ab_LK 8 64 = some (y_Mo_puts, 0) := by decide +kernel
theorem lk_8_68 : ab_fd ab_LK 8 68 = some (y_Mo_isTold, 0) := by decide +kernel
theorem lk_8_72 : ab_fd ab_LK 8 72 = some (y_Mo_its, 0) := by decide +kernel
theorem lk_8_76 : ab_fd ab_LK 8 76 = some (y_Mo_greatest, 0) := by decide +kernel
theorem lk_8_80 : ab_fd ab_LK 8 80 = some (y_Mo_saysNow, 0) := by decide +kernel
theorem lk_8_83 : ab_fd ab_LK 8 83 = some (y_Mo_toldBy, 0) := by decide +kernel
theorem lk_8_86 : ab_fd ab_LK 8 86 = some (y_Mo_lawOf, 0) := by decide +kernel
theorem lk_8_90 : ab_fd ab_LK 8 90 = some (y_Mo_whose, 0) := by decide +kernel
theorem lk_8_93 : ab_fd ab_LK 8 93 = some (y_Mo_isField, 0) := by decide +kernel
theorem lk_8_97 : ab_fd ab_LK 8 97 = some (y_Mo_rentOf, 0) := by decide +kernel
theorem lk_8_100 : ab_fd ab_LK 8 100 = some (y_Mo_isOwner, 0) := by decide +kernel
theorem lk_8_103 : ab_fd ab_LK 8 103 = some (y_Mo_acresOf, 0) := by decide +kernel
theorem lk_8_106 : ab_fd ab_LK 8 106 = some (y_Mo_above, 0) := by decide +kernel
theorem lk_8_110 : ab_fd ab_LK 8 110 = some (y_Mo_doesHear, 0) := by decide +kernel
theorem lk_8_113 : ab_fd ab_LK 8 113 = some (y_Mo_hears, 0) := by decide +kernel
theorem lk_8_117 : ab_fd ab_LK 8 117 = some (y_Mo_held, 0) := by decide +kernel
theorem lk_8_121 : ab_fd ab_LK 8 121 = some (y_Mo_canTell, 0) := by decide +kernel
theorem lk_8_126 : ab_fd ab_LK 8 126 = some (y_Mo_telling, 0) := by decide +kernel
theorem lk_8_130 : ab_fd ab_LK 8 130 = some (y_Mo_drawn, 0) := by decide +kernel
theorem lk_8_146 : ab_fd ab_LK 8 146 = some (y_Mo_byteAt, 0) := by decide +kernel
theorem lk_8_149 : ab_fd ab_LK 8 149 = some (y_Mo_isDigit, 0) := by decide +kernel
theorem lk_8_152 : ab_fd ab_LK 8 152 = some (y_Mo_fails, 0) := by decide +kernel
theorem lk_8_165 : ab_fd ab_LK 8 165 = some (y_Mo_number, 0) := by decide +kernel
theorem lk_8_168 : ab_fd ab_LK 8 168 = some (y_Mo_named, 0) := by decide +kernel
theorem lk_8_174 : ab_fd ab_LK 8 174 = some (y_Mo_factor, 0) := by decide +kernel
theorem lk_8_177 : ab_fd ab_LK 8 177 = some (y_Mo_whole, 0) := by decide +kernel
theorem lk_8_180 : ab_fd ab_LK 8 180 = some (y_Mo_product, 0) := by decide +kernel
theorem lk_8_183 : ab_fd ab_LK 8 183 = some (y_Mo_sum, 0) := by decide +kernel
theorem lk_8_186 : ab_fd ab_LK 8 186 = some (y_Mo_compared, 0) := by decide +kernel
theorem lk_8_189 : ab_fd ab_LK 8 189 = some (y_Mo_both, 0) := by decide +kernel
theorem lk_8_192 : ab_fd ab_LK 8 192 = some (y_Mo_walks, 0) := by decide +kernel
theorem lk_8_197 : ab_fd ab_LK 8 197 = some (y_Mo_moveAll, 0) := by decide +kernel
theorem lk_8_201 : ab_fd ab_LK 8 201 = some (y_Mo_neededOf, 0) := by decide +kernel
theorem lk_8_205 : ab_fd ab_LK 8 205 = some (y_Mo_coachAt, 0) := by decide +kernel
theorem lk_8_208 : ab_fd ab_LK 8 208 = some (y_Mo_isInTime, 0) := by decide +kernel
theorem lk_8_211 : ab_fd ab_LK 8 211 = some (y_Mo_byTurns, 0) := by decide +kernel
theorem lk_8_214 : ab_fd ab_LK 8 214 = some (y_Mo_isSheet, 0) := by decide +kernel
theorem lk_8_217 : ab_fd ab_LK 8 217 = some (y_Mo_saySo, 0) := by decide +kernel
theorem lk_8_227 : ab_fd ab_LK 8 227 = some (y_Mo_ran, 0) := by decide +kernel
theorem lk_8_233 : ab_fd ab_LK 8 233 = some (y_Mo_hearsIn, 0) := by decide +kernel
theorem lk_8_239 : ab_fd ab_LK 8 239 = some (y_Mo_fearsIn, 0) := by decide +kernel
theorem lk_8_245 : ab_fd ab_LK 8 245 = some (y_Mo_saysIn, 0) := by decide +kernel
theorem lk_8_248 : ab_fd ab_LK 8 248 = some (y_Mo_tellsIn, 0) := by decide +kernel
theorem lk_8_251 : ab_fd ab_LK 8 251 = some (y_Mo_narrow, 0) := by decide +kernel
theorem lk_9_9 : ab_fd ab_LK 9 9 = some (y_Fo_init, 0) := by decide +kernel
theorem lk_9_12 : ab_fd ab_LK 9 12 = some (y_Mo_init, 0) := by decide +kernel
theorem lk_9_13 : ab_fd ab_LK 9 13 = some (y_Fo_field, 0) := by decide +kernel
theorem lk_9_17 : ab_fd ab_LK 9 17 = some (y_Mo_field, 0) := by decide +kernel
theorem lk_9_18 : ab_fd ab_LK 9 18 = some (y_Fo_ofField, 0) := by decide +kernel
theorem lk_9_21 : ab_fd ab_LK 9 21 = some (y_Mo_ofField, 0) := by decide +kernel
theorem lk_9_22 : ab_fd ab_LK 9 22 = some (y_Fo_tellings, 0) := by decide +kernel
theorem lk_9_25 : ab_fd ab_LK 9 25 = some (y_Mo_tellings, 0) := by decide +kernel
theorem lk_9_26 : ab_fd ab_LK 9 26 = some (y_Fo_ofOwner, 0) := by decide +kernel
theorem lk_9_29 : ab_fd ab_LK 9 29 = some (y_Mo_ofOwner, 0) := by decide +kernel
theorem lk_9_30 : ab_fd ab_LK 9 30 = some (y_Fo_become, 0) := by decide +kernel
theorem lk_9_33 : ab_fd ab_LK 9 33 = some (y_Mo_become, 0) := by decide +kernel
theorem lk_9_34 : ab_fd ab_LK 9 34 = some (y_Fo_as, 0) := by decide +kernel
theorem lk_9_37 : ab_fd ab_LK 9 37 = some (y_Mo_as, 0) := by decide +kernel
theorem lk_9_38 : ab_fd ab_LK 9 38 = some (y_Fo_set, 0) := by decide +kernel
theorem lk_9_42 : ab_fd ab_LK 9 42 = some (y_Mo_set, 0) := by decide +kernel
theorem lk_9_43 : ab_fd ab_LK 9 43 = some (y_Fo_fear, 0) := by decide +kernel
theorem lk_9_46 : ab_fd ab_LK 9 46 = some (y_Mo_fear, 0) := by decide +kernel
theorem lk_9_47 : ab_fd ab_LK 9 47 = some (y_Fo_pace, 0) := by decide +kernel
theorem lk_9_51 : ab_fd ab_LK 9 51 = some (y_Mo_pace, 0) := by decide +kernel
theorem lk_9_52 : ab_fd ab_LK 9 52 = some (y_Fo_forgets, 0) := by decide +kernel
theorem lk_9_55 : ab_fd ab_LK 9 55 = some (y_Mo_forgets, 0) := by decide +kernel
theorem lk_9_56 : ab_fd ab_LK 9 56 = some (y_Fo_tells, 0) := by decide +kernel
theorem lk_9_59 : ab_fd ab_LK 9 59 = some (y_Mo_tells, 0) := by decide +kernel
theorem lk_9_60 : ab_fd ab_LK 9 60 = some (y_Fo_loose, 0) := by decide +kernel
theorem lk_9_63 : ab_fd ab_LK 9 63 = some (y_Mo_loose, 0) := by decide +kernel
theorem lk_9_66 : ab_fd ab_LK 9 66 = some (y_Fo_feed, 0) := by decide +kernel
theorem lk_9_70 : ab_fd ab_LK 9 70 = some (y_Mo_feed, 0) := by decide +kernel
theorem lk_9_71 : ab_fd ab_LK 9 71 = some (y_Fo_text, 0) := by decide +kernel
theorem lk_9_74 : ab_fd ab_LK 9 74 = some (y_Mo_text, 0) := by decide +kernel
theorem lk_9_75 : ab_fd ab_LK 9 75 = some (y_Fo_law, 0) := by decide +kernel
theorem lk_9_79 : ab_fd ab_LK 9 79 = some (y_Mo_law, 0) := by decide +kernel
theorem lk_9_80 : ab_fd ab_LK 9 80 = some (y_Fo_needed, 0) := by decide +kernel
theorem lk_9_83 : ab_fd ab_LK 9 83 = some (y_Mo_needed, 0) := by decide +kernel
theorem lk_9_84 : ab_fd ab_LK 9 84 = some (y_Fo_coach, 0) := by decide +kernel
theorem lk_9_87 : ab_fd ab_LK 9 87 = some (y_Mo_coach, 0) := by decide +kernel
theorem lk_9_88 : ab_fd ab_LK 9 88 = some (y_Fo_gain, 0) := by decide +kernel
theorem lk_9_91 : ab_fd ab_LK 9 91 = some (y_Mo_gain, 0) := by decide +kernel
theorem lk_9_92 : ab_fd ab_LK 9 92 = some (y_Fo_turns, 0) := by decide +kernel
theorem lk_9_95 : ab_fd ab_LK 9 95 = some (y_Mo_turns, 0) := by decide +kernel
theorem lk_9_96 : ab_fd ab_LK 9 96 = some (y_Fo_one, 0) := by decide +kernel
theorem lk_9_99 : ab_fd ab_LK 9 99 = some (y_Mo_one, 0) := by decide +kernel
theorem lk_9_100 : ab_fd ab_LK 9 100 = some (y_Fo_fears, 0) := by decide +kernel
theorem lk_9_103 : ab_fd ab_LK 9 103 = some (y_Mo_fears, 0) := by decide +kernel
theorem lk_9_104 : ab_fd ab_LK 9 104 = some (y_Fo_silence, 0) := by decide +kernel
theorem lk_9_107 : ab_fd ab_LK 9 107 = some (y_Mo_silence, 0) := by decide +kernel
theorem lk_9_108 : ab_fd ab_LK 9 108 = some (y_Fo_odds, 0) := by decide +kernel
theorem lk_9_112 : ab_fd ab_LK 9 112 = some (y_Mo_odds, 0) := by decide +kernel
theorem lk_9_113 : ab_fd ab_LK 9 113 = some (y_Fo_seed, 0) := by decide +kernel
theorem lk_9_116 : ab_fd ab_LK 9 116 = some (y_Mo_seed, 0) := by decide +kernel
theorem lk_9_117 : ab_fd ab_LK 9 117 = some (y_Fo_voice, 0) := by decide +kernel
theorem lk_9_120 : ab_fd ab_LK 9 120 = some (y_Mo_voice, 0) := by decide +kernel
theorem lk_9_121 : ab_fd ab_LK 9 121 = some (y_Fo_trace, 0) := by decide +kernel
theorem lk_9_124 : ab_fd ab_LK 9 124 = some (y_Mo_trace, 0) := by decide +kernel
theorem lk_9_125 : ab_fd ab_LK 9 125 = some (y_Fo_sheet, 0) := by decide +kernel
theorem lk_9_128 : ab_fd ab_LK 9 128 = some (y_Mo_sheet, 0) := by decide +kernel
theorem lk_9_129 : ab_fd ab_LK 9 129 = some (y_Fo_put, 0) := by decide +kernel
theorem lk_9_132 : ab_fd ab_LK 9 132 = some (y_Mo_put, 0) := by decide +kernel
theorem lk_9_133 : ab_fd ab_LK 9 133 = some (y_Fo_move, 0) := by decide +kernel
theorem lk_9_137 : ab_fd ab_LK 9 137 = some (y_Mo_move, 0) := by decide +kernel
theorem lk_9_138 : ab_fd ab_LK 9 138 = some (y_Fo_acres, 0) := by decide +kernel
theorem lk_9_141 : ab_fd ab_LK 9 141 = some (y_Mo_acres, 0) := by decide +kernel
theorem lk_9_142 : ab_fd ab_LK 9 142 = some (y_Fo_judge, 0) := by decide +kernel
theorem lk_9_145 : ab_fd ab_LK 9 145 = some (y_Mo_judge, 0) := by decide +kernel
theorem lk_9_146 : ab_fd ab_LK 9 146 = some (y_Fo_image, 0) := by decide +kernel
theorem lk_9_150 : ab_fd ab_LK 9 150 = some (y_Mo_image, 0) := by decide +kernel
theorem lk_9_151 : ab_fd ab_LK 9 151 = some (y_Fo_restore, 0) := by decide +kernel
theorem lk_9_154 : ab_fd ab_LK 9 154 = some (y_Mo_restore, 0) := by decide +kernel
theorem lk_9_155 : ab_fd ab_LK 9 155 = some (y_Fo_tell, 0) := by decide +kernel
theorem lk_9_158 : ab_fd ab_LK 9 158 = some (y_Mo_tell, 0) := by decide +kernel
theorem lk_9_159 : ab_fd ab_LK 9 159 = some (y_Fo_check, 0) := by decide +kernel
theorem lk_9_162 : ab_fd ab_LK 9 162 = some (y_Mo_check, 0) := by decide +kernel
theorem lk_9_163 : ab_fd ab_LK 9 163 = some (y_Fo_count, 0) := by decide +kernel
theorem lk_9_166 : ab_fd ab_LK 9 166 = some (y_Mo_count, 0) := by decide +kernel
theorem lk_9_167 : ab_fd ab_LK 9 167 = some (y_Fo_told, 0) := by decide +kernel
theorem lk_9_170 : ab_fd ab_LK 9 170 = some (y_Mo_told, 0) := by decide +kernel
theorem lk_10_335 : ab_fd ab_LK 10 335 = some (y_Js_coder, 0) := by decide +kernel
theorem lk_10_492 : ab_fd ab_LK 10 492 = some (y_Js_isLatin1, 0) := by decide +kernel
theorem lk_10_505 : ab_fd ab_LK 10 505 = some (y_Js_length, 0) := by decide +kernel
theorem lk_10_633 : ab_fd ab_LK 10 633 = some (y_Js_indexOf2, 0) := by decide +kernel
theorem lk_10_637 : ab_fd ab_LK 10 637 = some (y_Jl_indexOf, 0) := by decide +kernel
theorem lk_11_38 : ab_fd ab_LK 11 38 = some (997, 0) := by decide +kernel
theorem lk_11_88 : ab_fd ab_LK 11 88 = some (y_Jl_canEncode, 0) := by decide +kernel
theorem lk_11_92 : ab_fd ab_LK 11 92 = some (996, 0) := by decide +kernel
theorem lk_11_95 : ab_fd ab_LK 11 95 = some (y_Jl_indexOfChar, 0) := by decide +kernel
theorem O_0 (S : wp_S) : wp_O S 0 7 [some (.ref 1), some (.ref 33), some (.ref 65), some (.ref 67), some (.ref 79), some (.ref 81), some (.ref 90), none] := ⟨by decide, by decide, _, rfl⟩
theorem O_1 (S : wp_S) : wp_O S 1 1 [some (.ref 2), some (.ref 3), some (.ref 4), some (.ref 7), some (.ref 10), some (.ref 11), some (.ref 12), none, none, none, none, none, none, none] := ⟨by decide, by decide, _, rfl⟩
theorem A_3 (S : wp_S) : wp_A S 3 4 := ⟨by decide, _, rfl⟩
theorem O_4 (S : wp_S) : wp_O S 4 2 [some (.ref 10000), some (.ref 5), some (.ref 6), none] := ⟨by decide, by decide, _, rfl⟩
theorem A_5 (S : wp_S) : wp_A S 5 50 := ⟨by decide, _, rfl⟩
theorem A_6 (S : wp_S) : wp_A S 6 50 := ⟨by decide, _, rfl⟩
theorem O_7 (S : wp_S) : wp_O S 7 2 [some (.ref 10001), some (.ref 8), some (.ref 9), none] := ⟨by decide, by decide, _, rfl⟩
theorem A_8 (S : wp_S) : wp_A S 8 50 := ⟨by decide, _, rfl⟩
theorem A_9 (S : wp_S) : wp_A S 9 50 := ⟨by decide, _, rfl⟩
theorem A_10 (S : wp_S) : wp_A S 10 50 := ⟨by decide, _, rfl⟩
theorem A_11 (S : wp_S) : wp_A S 11 20 := ⟨by decide, _, rfl⟩
theorem A_12 (S : wp_S) : wp_A S 12 10 := ⟨by decide, _, rfl⟩
theorem O_13 (S : wp_S) : wp_O S 13 0 [none, some (.ref 14), none, none, none, none, none, none] := ⟨by decide, by decide, _, rfl⟩
theorem A_14 (S : wp_S) : wp_A S 14 4 := ⟨by decide, _, rfl⟩
theorem O_15 (S : wp_S) : wp_O S 15 0 [none, some (.ref 16), none, none, none, none, none, none] := ⟨by decide, by decide, _, rfl⟩
theorem A_16 (S : wp_S) : wp_A S 16 4 := ⟨by decide, _, rfl⟩
theorem O_17 (S : wp_S) : wp_O S 17 0 [none, some (.ref 18), none, none, none, none, none, none] := ⟨by decide, by decide, _, rfl⟩
theorem A_18 (S : wp_S) : wp_A S 18 4 := ⟨by decide, _, rfl⟩
theorem O_19 (S : wp_S) : wp_O S 19 0 [none, some (.ref 20), none, none, none, none, none, none] := ⟨by decide, by decide, _, rfl⟩
theorem A_20 (S : wp_S) : wp_A S 20 4 := ⟨by decide, _, rfl⟩
theorem O_21 (S : wp_S) : wp_O S 21 0 [none, some (.ref 22), none, none, none, none, none, none] := ⟨by decide, by decide, _, rfl⟩
theorem A_22 (S : wp_S) : wp_A S 22 4 := ⟨by decide, _, rfl⟩
theorem O_23 (S : wp_S) : wp_O S 23 0 [none, some (.ref 24), none, none, none, none, none, none] := ⟨by decide, by decide, _, rfl⟩
theorem A_24 (S : wp_S) : wp_A S 24 4 := ⟨by decide, _, rfl⟩
theorem O_25 (S : wp_S) : wp_O S 25 0 [none, some (.ref 26), none, none, none, none, none, none] := ⟨by decide, by decide, _, rfl⟩
theorem A_26 (S : wp_S) : wp_A S 26 4 := ⟨by decide, _, rfl⟩
theorem O_27 (S : wp_S) : wp_O S 27 0 [none, some (.ref 28), none, none, none, none, none, none] := ⟨by decide, by decide, _, rfl⟩
theorem A_28 (S : wp_S) : wp_A S 28 4 := ⟨by decide, _, rfl⟩
theorem O_29 (S : wp_S) : wp_O S 29 0 [none, some (.ref 30), none, none, none, none, none, none] := ⟨by decide, by decide, _, rfl⟩
theorem A_30 (S : wp_S) : wp_A S 30 4 := ⟨by decide, _, rfl⟩
theorem O_31 (S : wp_S) : wp_O S 31 0 [none, some (.ref 32), none, none, none, none, none, none] := ⟨by decide, by decide, _, rfl⟩
theorem A_32 (S : wp_S) : wp_A S 32 4 := ⟨by decide, _, rfl⟩
theorem O_33 (S : wp_S) : wp_O S 33 1 [some (.ref 34), some (.ref 35), some (.ref 36), some (.ref 39), some (.ref 42), some (.ref 43), some (.ref 44), none, none, none, none, none, none, none] := ⟨by decide, by decide, _, rfl⟩
theorem A_35 (S : wp_S) : wp_A S 35 4 := ⟨by decide, _, rfl⟩
theorem O_36 (S : wp_S) : wp_O S 36 2 [some (.ref 10000), some (.ref 37), some (.ref 38), none] := ⟨by decide, by decide, _, rfl⟩
theorem A_37 (S : wp_S) : wp_A S 37 50 := ⟨by decide, _, rfl⟩
theorem A_38 (S : wp_S) : wp_A S 38 50 := ⟨by decide, _, rfl⟩
theorem O_39 (S : wp_S) : wp_O S 39 2 [some (.ref 10001), some (.ref 40), some (.ref 41), none] := ⟨by decide, by decide, _, rfl⟩
theorem A_40 (S : wp_S) : wp_A S 40 50 := ⟨by decide, _, rfl⟩
theorem A_41 (S : wp_S) : wp_A S 41 50 := ⟨by decide, _, rfl⟩
theorem A_42 (S : wp_S) : wp_A S 42 50 := ⟨by decide, _, rfl⟩
theorem A_43 (S : wp_S) : wp_A S 43 20 := ⟨by decide, _, rfl⟩
theorem A_44 (S : wp_S) : wp_A S 44 10 := ⟨by decide, _, rfl⟩
theorem O_45 (S : wp_S) : wp_O S 45 0 [none, some (.ref 46), none, none, none, none, none, none] := ⟨by decide, by decide, _, rfl⟩
theorem A_46 (S : wp_S) : wp_A S 46 4 := ⟨by decide, _, rfl⟩
theorem O_47 (S : wp_S) : wp_O S 47 0 [none, some (.ref 48), none, none, none, none, none, none] := ⟨by decide, by decide, _, rfl⟩
theorem A_48 (S : wp_S) : wp_A S 48 4 := ⟨by decide, _, rfl⟩
theorem O_49 (S : wp_S) : wp_O S 49 0 [none, some (.ref 50), none, none, none, none, none, none] := ⟨by decide, by decide, _, rfl⟩
theorem A_50 (S : wp_S) : wp_A S 50 4 := ⟨by decide, _, rfl⟩
theorem O_51 (S : wp_S) : wp_O S 51 0 [none, some (.ref 52), none, none, none, none, none, none] := ⟨by decide, by decide, _, rfl⟩
theorem A_52 (S : wp_S) : wp_A S 52 4 := ⟨by decide, _, rfl⟩
theorem O_53 (S : wp_S) : wp_O S 53 0 [none, some (.ref 54), none, none, none, none, none, none] := ⟨by decide, by decide, _, rfl⟩
theorem A_54 (S : wp_S) : wp_A S 54 4 := ⟨by decide, _, rfl⟩
theorem O_55 (S : wp_S) : wp_O S 55 0 [none, some (.ref 56), none, none, none, none, none, none] := ⟨by decide, by decide, _, rfl⟩
theorem A_56 (S : wp_S) : wp_A S 56 4 := ⟨by decide, _, rfl⟩
theorem O_57 (S : wp_S) : wp_O S 57 0 [none, some (.ref 58), none, none, none, none, none, none] := ⟨by decide, by decide, _, rfl⟩
theorem A_58 (S : wp_S) : wp_A S 58 4 := ⟨by decide, _, rfl⟩
theorem O_59 (S : wp_S) : wp_O S 59 0 [none, some (.ref 60), none, none, none, none, none, none] := ⟨by decide, by decide, _, rfl⟩
theorem A_60 (S : wp_S) : wp_A S 60 4 := ⟨by decide, _, rfl⟩
theorem O_61 (S : wp_S) : wp_O S 61 0 [none, some (.ref 62), none, none, none, none, none, none] := ⟨by decide, by decide, _, rfl⟩
theorem A_62 (S : wp_S) : wp_A S 62 4 := ⟨by decide, _, rfl⟩
theorem O_63 (S : wp_S) : wp_O S 63 0 [none, some (.ref 64), none, none, none, none, none, none] := ⟨by decide, by decide, _, rfl⟩
theorem A_64 (S : wp_S) : wp_A S 64 4 := ⟨by decide, _, rfl⟩
theorem O_65 (S : wp_S) : wp_O S 65 3 [some (.ref 66), none, some (.ref 10), some (.ref S.1), none, none, none, none] := ⟨by decide, by decide, _, rfl⟩
theorem A_66 (S : wp_S) : wp_A S 66 50 := ⟨by decide, _, rfl⟩
theorem O_67 (S : wp_S) : wp_O S 67 5 [none, none, some (.ref 1), some (.ref 68), some (.ref 69), some (.ref 70)] := ⟨by decide, by decide, _, rfl⟩
theorem A_69 (S : wp_S) : wp_A S 69 10 := ⟨by decide, _, rfl⟩
theorem A_70 (S : wp_S) : wp_A S 70 4 := ⟨by decide, _, rfl⟩
theorem O_71 (S : wp_S) : wp_O S 71 0 [none, some (.ref 72), none, none, none, none, none, none] := ⟨by decide, by decide, _, rfl⟩
theorem A_72 (S : wp_S) : wp_A S 72 4 := ⟨by decide, _, rfl⟩
theorem O_73 (S : wp_S) : wp_O S 73 0 [none, some (.ref 74), none, none, none, none, none, none] := ⟨by decide, by decide, _, rfl⟩
theorem A_74 (S : wp_S) : wp_A S 74 4 := ⟨by decide, _, rfl⟩
theorem O_75 (S : wp_S) : wp_O S 75 0 [none, some (.ref 76), none, none, none, none, none, none] := ⟨by decide, by decide, _, rfl⟩
theorem A_76 (S : wp_S) : wp_A S 76 4 := ⟨by decide, _, rfl⟩
theorem O_77 (S : wp_S) : wp_O S 77 0 [none, some (.ref 78), none, none, none, none, none, none] := ⟨by decide, by decide, _, rfl⟩
theorem A_78 (S : wp_S) : wp_A S 78 4 := ⟨by decide, _, rfl⟩
theorem O_79 (S : wp_S) : wp_O S 79 6 [some (.ref 80), none, none, none, none] := ⟨by decide, by decide, _, rfl⟩
theorem A_80 (S : wp_S) : wp_A S 80 40 := ⟨by decide, _, rfl⟩
theorem O_82 (S : wp_S) : wp_O S 82 4 [some (.ref 83), none, none] := ⟨by decide, by decide, _, rfl⟩
theorem A_83 (S : wp_S) : wp_A S 83 40 := ⟨by decide, _, rfl⟩
theorem O_84 (S : wp_S) : wp_O S 84 4 [some (.ref 85), none, none] := ⟨by decide, by decide, _, rfl⟩
theorem A_85 (S : wp_S) : wp_A S 85 40 := ⟨by decide, _, rfl⟩
theorem O_86 (S : wp_S) : wp_O S 86 4 [some (.ref 87), none, none] := ⟨by decide, by decide, _, rfl⟩
theorem A_87 (S : wp_S) : wp_A S 87 40 := ⟨by decide, _, rfl⟩
theorem O_88 (S : wp_S) : wp_O S 88 4 [some (.ref 89), none, none] := ⟨by decide, by decide, _, rfl⟩
theorem A_89 (S : wp_S) : wp_A S 89 40 := ⟨by decide, _, rfl⟩
theorem A_90 (S : wp_S) : wp_A S 90 6 := ⟨by decide, _, rfl⟩
theorem O_91 (S : wp_S) : wp_O S 91 8 [some (.ref 92), some (.ref 93), some (.ref 94), some (.ref 95), none, none, some (.ref 96), none, some (.ref 97), none, none, none, none, none, none, none, none, some (.ref 98), some (.ref 99), some (.ref 100), some (.ref 101), some (.ref 102), some (.ref 103), some (.ref 104), none, none, none, none] := ⟨by decide, by decide, _, rfl⟩
theorem A_92 (S : wp_S) : wp_A S 92 283 := ⟨by decide, _, rfl⟩
theorem A_93 (S : wp_S) : wp_A S 93 283 := ⟨by decide, _, rfl⟩
theorem A_94 (S : wp_S) : wp_A S 94 283 := ⟨by decide, _, rfl⟩
theorem A_95 (S : wp_S) : wp_A S 95 283 := ⟨by decide, _, rfl⟩
theorem A_96 (S : wp_S) : wp_A S 96 6 := ⟨by decide, _, rfl⟩
theorem A_97 (S : wp_S) : wp_A S 97 10 := ⟨by decide, _, rfl⟩
theorem A_98 (S : wp_S) : wp_A S 98 10 := ⟨by decide, _, rfl⟩
theorem A_99 (S : wp_S) : wp_A S 99 1415 := ⟨by decide, _, rfl⟩
theorem A_100 (S : wp_S) : wp_A S 100 4 := ⟨by decide, _, rfl⟩
theorem A_101 (S : wp_S) : wp_A S 101 4 := ⟨by decide, _, rfl⟩
theorem A_102 (S : wp_S) : wp_A S 102 160 := ⟨by decide, _, rfl⟩
theorem A_103 (S : wp_S) : wp_A S 103 40 := ⟨by decide, _, rfl⟩
theorem A_104 (S : wp_S) : wp_A S 104 40 := ⟨by decide, _, rfl⟩
