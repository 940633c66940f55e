/-! rows of the law: the system's machine over the law's script X; it must end with 1 -/
def lw (X : ab_X) (d y pc : Nat) (ls : ab_L) (st : List Value) (S : wp_S) : Prop := ∃ n S', ab_run (ab_cal X d) X y n (pc, ls, st, wp_h S) (some (.int 1)) (wp_h S')
def lw_K (X : ab_X) (d y pc : Nat) (ls : ab_L) (r : List Value) : Option Value → wp_S → Prop := fun q S1 => lw X d y pc ls (q.toList ++ r) S1
section LW
variable {X : ab_X} {d y pc : Nat} {ls ls' : ab_L} {st st' r : List Value} {S S' : wp_S}
theorem lw_stX {pc' : Nat} (hs : ab_stp X y (pc, ls, st, wp_h S) = some (.inl (pc', ls', st', wp_h S'))) (k : lw X d y pc' ls' st' S') : lw X d y pc ls st S := by
  obtain ⟨n, S2, h1⟩ := k
  refine ⟨n + 1, S2, ?_⟩
  unfold ab_run
  rw [hs]
  exact h1
theorem lw_exX {i : Instr} {n pc' : Nat} (hd : ab_ins y pc = some (i, n)) (hx : ab_ex X y i n pc ls st (wp_h S) = some (.inl (pc', ls', st', wp_h S'))) (k : lw X d y pc' ls' st' S') : lw X d y pc ls st S := by
  refine lw_stX ?_ k
  unfold ab_stp
  dsimp only
  rw [hd]
  exact hx
theorem lw_ex {i : Instr} {n pc' : Nat} (hd : ab_ins y pc = some (i, n)) (hx : ab_ex none y i n pc ls st (wp_h S) = some (.inl (pc', ls', st', wp_h S'))) (k : lw X d y pc' ls' st' S') : lw X d y pc ls st S := lw_exX hd (ab_ex_mono hx) k
theorem lw_ca {k0 pc' : Nat} {as : List Value} {d0 : Nat} (hs : ab_stp none y (pc, ls, st, wp_h S) = some (.inr (.inl (k0, as, (pc', ls, st', wp_h S))))) (hle : d0 ≤ d) (hc : cl d0 k0 as S (fun r S1 => lw X d y pc' ls (r.toList ++ st') S1)) : lw X d y pc ls st S := by
  obtain ⟨r1, S1, h1, n, S2, h2⟩ := hc
  refine ⟨n + 1, S2, ?_⟩
  unfold ab_run
  rw [ab_stp_mono hs]
  exact ⟨r1, wp_h S1, ab_cal_mono d k0 as _ r1 _ (ab_cal_le d0 d k0 as _ r1 _ hle h1), h2⟩
theorem lw_xc {i : Instr} {n k0 pc' : Nat} {as : List Value} {d0 : Nat} (hd : ab_ins y pc = some (i, n)) (hx : ab_ex none y i n pc ls st (wp_h S) = some (.inr (.inl (k0, as, (pc', ls, st', wp_h S))))) (hle : d0 ≤ d) (hc : cl d0 k0 as S (fun r S1 => lw X d y pc' ls (r.toList ++ st') S1)) : lw X d y pc ls st S := by
  refine lw_ca ?_ hle hc
  unfold ab_stp
  dsimp only
  rw [hd]
  exact hx
theorem lw_one (hd : ab_ins y pc = some (.ireturn, 1)) (hr : ab_ret y = some .boolean) : lw X d y pc ls [.int 1] S := by
  refine ⟨1, S, ?_⟩
  have hx : ab_ex X y .ireturn 1 pc ls [.int 1] (wp_h S) = some (.inr (.inr (some (.int 1)))) := by
    show ab_rti y [.int 1] = _
    unfold ab_rti
    dsimp only
    rw [hr]
    dsimp only
    rw [if_pos ⟨Or.inr (Or.inl rfl), rfl⟩]
  have hs : ab_stp X y (pc, ls, [.int 1], wp_h S) = some (.inr (.inr (some (.int 1)))) := by
    unfold ab_stp
    dsimp only
    rw [hd]
    exact hx
  unfold ab_run
  rw [hs]
  exact ⟨rfl, rfl⟩
theorem lw_iconst {z : Int} {x : Int32} (hd : ab_ins y pc = some (.iconst z, 1)) (hv : Int32.ofInt z = x) (k : lw X d y (pc + 1) ls (.int x :: st) S) : lw X d y pc ls st S := lw_ex hd (by subst hv; rfl) k
theorem lw_bipush {z : Int} {x : Int32} (hd : ab_ins y pc = some (.bipush z, 2)) (hv : (Int8.ofInt z).toInt32 = x) (k : lw X d y (pc + 2) ls (.int x :: st) S) : lw X d y pc ls st S := lw_ex hd (by subst hv; rfl) k
theorem lw_ldc2_w {o j : Nat} {v : Int64} (hd : ab_ins y pc = some (.ldc2_w j, 3)) (ho : ab_own y = o) (hv : ab_f3 ab_LL o j = some v) (k : lw X d y (pc + 3) ls (.long v :: st) S) : lw X d y pc ls st S := lw_ex hd (by
  show (match ab_f3 ab_LL (ab_own y) j with | some x => ab_go (pc + 3) ls (.long x :: st) (wp_h S) | none => none) = _
  rw [ho, hv]
  rfl) k
theorem lw_iload_n {j : Fin 4} {i : Nat} {x : Int32} (hd : ab_ins y pc = some (.iload_n j, 1)) (hi : (j : Nat) = i) (hv : ls[i]? = some (some (.int x))) (k : lw X d y (pc + 1) ls (.int x :: st) S) : lw X d y pc ls st S := lw_ex hd (by subst hi; show ab_lo (ab_li ls (j : Nat)) (pc + 1) ls st (wp_h S) = _; unfold ab_li; rw [ab_ld_of hv]; rfl) k
theorem lw_aload_n {j : Fin 4} {i : Nat} {x : Nat} (hd : ab_ins y pc = some (.aload_n j, 1)) (hi : (j : Nat) = i) (hv : ls[i]? = some (some (.ref x))) (k : lw X d y (pc + 1) ls (.ref x :: st) S) : lw X d y pc ls st S := lw_ex hd (by subst hi; show ab_lo (ab_la ls (j : Nat)) (pc + 1) ls st (wp_h S) = _; unfold ab_la; rw [ab_ld_of hv]; rfl) k
theorem lw_istore_n {j : Fin 4} {i : Nat} {x : Int32} (hd : ab_ins y pc = some (.istore_n j, 1)) (hi : (j : Nat) = i) (hv : ab_s1 ls i (.int x) = some ls') (k : lw X d y (pc + 1) ls' st S) : lw X d y pc ls (.int x :: st) S := lw_ex hd (by subst hi; show ab_so (ab_s1 ls (j : Nat) (.int x)) (pc + 1) st (wp_h S) = _; rw [hv]; rfl) k
theorem lw_iadd {x z v : Int32} (hd : ab_ins y pc = some (.iadd, 1)) (hv : x + z = v) (k : lw X d y (pc + 1) ls (.int v :: st) S) : lw X d y pc ls (.int z :: .int x :: st) S := lw_ex hd (by subst hv; rfl) k
theorem lw_isub {x z v : Int32} (hd : ab_ins y pc = some (.isub, 1)) (hv : x - z = v) (k : lw X d y (pc + 1) ls (.int v :: st) S) : lw X d y pc ls (.int z :: .int x :: st) S := lw_ex hd (by subst hv; rfl) k
theorem lw_iand {x z v : Int32} (hd : ab_ins y pc = some (.iand, 1)) (hv : x &&& z = v) (k : lw X d y (pc + 1) ls (.int v :: st) S) : lw X d y pc ls (.int z :: .int x :: st) S := lw_ex hd (by subst hv; rfl) k
theorem lw_i2l {x : Int32} {v : Int64} (hd : ab_ins y pc = some (.i2l, 1)) (hv : x.toInt64 = v) (k : lw X d y (pc + 1) ls (.long v :: st) S) : lw X d y pc ls (.int x :: st) S := lw_ex hd (by subst hv; rfl) k
theorem lw_lshl {x v : Int64} {z : Int32} (hd : ab_ins y pc = some (.lshl, 1)) (hv : x <<< (z.toInt64 &&& 63) = v) (k : lw X d y (pc + 1) ls (.long v :: st) S) : lw X d y pc ls (.int z :: .long x :: st) S := lw_ex hd (by subst hv; rfl) k
theorem lw_land {x z v : Int64} (hd : ab_ins y pc = some (.land, 1)) (hv : x &&& z = v) (k : lw X d y (pc + 1) ls (.long v :: st) S) : lw X d y pc ls (.long z :: .long x :: st) S := lw_ex hd (by subst hv; rfl) k
theorem lw_lor {x z v : Int64} (hd : ab_ins y pc = some (.lor, 1)) (hv : x ||| z = v) (k : lw X d y (pc + 1) ls (.long v :: st) S) : lw X d y pc ls (.long z :: .long x :: st) S := lw_ex hd (by subst hv; rfl) k
theorem lw_lcmp {x z : Int64} {v : Int32} (hd : ab_ins y pc = some (.lcmp, 1)) (hv : lg_cmp x z = v) (k : lw X d y (pc + 1) ls (.int v :: st) S) : lw X d y pc ls (.long z :: .long x :: st) S := lw_ex hd (by subst hv; rfl) k
theorem lw_goto {pc' : Nat} {off : Int} (hd : ab_ins y pc = some (.goto off, 3)) (ht : (pc : Int) + off = (pc' : Int)) (k : lw X d y pc' ls st S) : lw X d y pc ls st S := lw_ex hd (by show (if 3 = 3 then ab_jp pc off ls st (wp_h S) else none) = _; rw [if_pos rfl, wp_jp ht]) k
theorem lw_ic {pc' : Nat} {off : Int} {c : Jvm.ClassFile.Cond} {x z : Int32} (hd : ab_ins y pc = some (.if_icmp c off, 3)) (ht : (pc : Int) + off = (pc' : Int)) (kt : ab_cc c x z = true → lw X d y pc' ls st S) (kf : ab_cc c x z = false → lw X d y (pc + 3) ls st S) : lw X d y pc ls (.int z :: .int x :: st) S := by
  cases hc : ab_cc c x z with
  | true => exact lw_ex hd (by show (if 3 = 3 ∧ 0 ≤ (pc : Int) + off then (if ab_cc c x z = true then ab_jp pc off ls st (wp_h S) else _) else none) = _; rw [if_pos ⟨rfl, by omega⟩, if_pos hc, wp_jp ht]) (kt hc)
  | false => exact lw_ex hd (by show (if 3 = 3 ∧ 0 ≤ (pc : Int) + off then (if ab_cc c x z = true then _ else ab_go (pc + 3) ls st (wp_h S)) else none) = _; rw [if_pos ⟨rfl, by omega⟩, if_neg (by rw [hc]; decide)]; rfl) (kf hc)
theorem lw_if {pc' : Nat} {off : Int} {c : Jvm.ClassFile.Cond} {x : Int32} (hd : ab_ins y pc = some (.ifCond c off, 3)) (ht : (pc : Int) + off = (pc' : Int)) (kt : ab_cc c x 0 = true → lw X d y pc' ls st S) (kf : ab_cc c x 0 = false → lw X d y (pc + 3) ls st S) : lw X d y pc ls (.int x :: st) S := by
  cases hc : ab_cc c x 0 with
  | true => exact lw_ex hd (by show (if 3 = 3 ∧ 0 ≤ (pc : Int) + off then (if ab_cc c x 0 = true then ab_jp pc off ls st (wp_h S) else _) else none) = _; rw [if_pos ⟨rfl, by omega⟩, if_pos hc, wp_jp ht]) (kt hc)
  | false => exact lw_ex hd (by show (if 3 = 3 ∧ 0 ≤ (pc : Int) + off then (if ab_cc c x 0 = true then _ else ab_go (pc + 3) ls st (wp_h S)) else none) = _; rw [if_pos ⟨rfl, by omega⟩, if_neg (by rw [hc]; decide)]; rfl) (kf hc)
theorem lw_ic_eq {pc' : Nat} {off : Int} {x z : Int32} (hd : ab_ins y pc = some (.if_icmp .eq off, 3)) (ht : (pc : Int) + off = (pc' : Int)) (kt : x = z → lw X d y pc' ls st S) (kf : ¬ (x = z) → lw X d y (pc + 3) ls st S) : lw X d y pc ls (.int z :: .int x :: st) S := lw_ic hd ht (fun q => kt (of_decide_eq_true q)) (fun q => kf (of_decide_eq_false q))
theorem lw_if_eq {pc' : Nat} {off : Int} {x : Int32} (hd : ab_ins y pc = some (.ifCond .eq off, 3)) (ht : (pc : Int) + off = (pc' : Int)) (kt : x = 0 → lw X d y pc' ls st S) (kf : ¬ (x = 0) → lw X d y (pc + 3) ls st S) : lw X d y pc ls (.int x :: st) S := lw_if hd ht (fun q => kt (of_decide_eq_true q)) (fun q => kf (of_decide_eq_false q))
theorem lw_ic_gt {pc' : Nat} {off : Int} {x z : Int32} (hd : ab_ins y pc = some (.if_icmp .gt off, 3)) (ht : (pc : Int) + off = (pc' : Int)) (kt : z < x → lw X d y pc' ls st S) (kf : ¬ (z < x) → lw X d y (pc + 3) ls st S) : lw X d y pc ls (.int z :: .int x :: st) S := lw_ic hd ht (fun q => kt (of_decide_eq_true q)) (fun q => kf (of_decide_eq_false q))
theorem lw_ts {dd lo hi : Int} {offs : Array Int} {n pc' : Nat} {x : Int32} {off : Int} (hd : ab_ins y pc = some (.tableswitch dd lo hi offs, n)) (h1 : ¬ (x.toInt < lo ∨ hi < x.toInt)) (ho : offs[(x.toInt - lo).toNat]? = some off) (ht : (pc : Int) + off = (pc' : Int)) (k : lw X d y pc' ls st S) : lw X d y pc ls (.int x :: st) S := lw_ex hd (by
  show ab_tsw pc dd lo hi offs x ls st (wp_h S) = _
  unfold ab_tsw
  rw [if_neg h1, ho]
  exact wp_jp ht) k
theorem lw_td {dd lo hi : Int} {offs : Array Int} {n pc' : Nat} {x : Int32} (hd : ab_ins y pc = some (.tableswitch dd lo hi offs, n)) (h1 : x.toInt < lo ∨ hi < x.toInt) (ht : (pc : Int) + dd = (pc' : Int)) (k : lw X d y pc' ls st S) : lw X d y pc ls (.int x :: st) S := lw_ex hd (by
  show ab_tsw pc dd lo hi offs x ls st (wp_h S) = _
  unfold ab_tsw
  rw [if_pos h1]
  exact wp_jp ht) k
theorem lw_iinc {j : Nat} {z : Int} {x v : Int32} (hd : ab_ins y pc = some (.iinc j z, 3)) (hv : ls[j]? = some (some (.int x))) (he : x + Int32.ofInt z = v) (hs : ab_s1 ls j (.int v) = some ls') (k : lw X d y (pc + 3) ls' st S) : lw X d y pc ls st S := lw_ex hd (by show (match ab_ld ls j with | some (.int x) => ab_so (ab_s1 ls j (.int (x + Int32.ofInt z))) (pc + 3) st (wp_h S) | _ => none) = _; rw [ab_ld_of hv]; dsimp only; rw [he, hs]; rfl) k
theorem lw_invV {o j k0 z np ow d0 b : Nat} {as : List Value} (hd : ab_ins y pc = some (.invokevirtual j, 3)) (ho : ab_own y = o) (hl : ab_fd ab_LK o j = some (k0, z)) (hk : k0 < 900) (hm : ab_mi k0 = some (np, false, ow, false)) (h1 : st.drop np = .ref b :: r) (h2 : (st.take np).reverse = as) (h3 : np ≤ st.length) (hc : ab_cat r = true) (hb : ab_isC (wp_h S) b ow = true) (hle : d0 ≤ d) (k : cl d0 k0 (.ref b :: as) S (lw_K X d y (pc + 3) ls r)) : lw X d y pc ls st S := lw_xc (st' := r) hd (by
  obtain ⟨e, he, e1, e2, e3, e4⟩ := ab_mi_of hm
  show ab_inv y 0 j (pc + 3) ls st (wp_h S) = _
  unfold ab_inv
  rw [ho, hl]
  dsimp only
  rw [if_neg (by omega), if_neg (by omega), if_neg (by omega), if_neg (by omega), he]
  dsimp only
  rw [e1, if_pos h3, if_neg (by rw [e2]; decide), h1, h2]
  dsimp only
  rw [e3, if_pos ⟨hc, Or.inl ⟨rfl, e4, hb⟩⟩]) hle k
section LX
variable {L : Nat} {xs : Nat → Int32}
theorem lw_iaX {j : Nat} (hd : ab_ins y pc = some (.iaload, 1)) (hj : j < L) (hL : L < 2 ^ 31) (k : lw (some (L, xs)) d y (pc + 1) ls (.int (xs j) :: st) S) : lw (some (L, xs)) d y pc ls (.int (nI j) :: .ref 13000 :: st) S := lw_exX hd (by
  show (match ab_ia (some (L, xs)) (wp_h S) 13000 with | some q => if ab_ix (nI j) q.1 = true then ab_go (pc + 1) ls (.int (q.2 (nI j).toNatClampNeg) :: st) (wp_h S) else none | none => none) = _
  rw [show ab_ia (some (L, xs)) (wp_h S) 13000 = some (L, xs) from by unfold ab_ia; rw [if_neg (by decide), if_neg (by decide), if_neg (by decide), if_pos rfl]]
  dsimp only
  rw [if_pos (ab_ix_of hj hL), nI_clamp (by omega)]
  rfl) k
theorem lw_alX (hd : ab_ins y pc = some (.arraylength, 1)) (k : lw (some (L, xs)) d y (pc + 1) ls (.int (nI L) :: st) S) : lw (some (L, xs)) d y pc ls (.ref 13000 :: st) S := lw_exX hd (by
  have e1 : ab_ra (wp_h S) 13000 = none := by unfold ab_ra; rw [if_neg (by decide)]
  have e2 : ab_ba 13000 = none := by unfold ab_ba; rw [if_pos (by decide)]; rfl
  have e3 : ab_al (some (L, xs)) (wp_h S) 13000 = some L := by
    unfold ab_al
    rw [e1, e2]
    dsimp only
    rw [if_neg (by decide), show ab_ia (some (L, xs)) (wp_h S) 13000 = some (L, xs) from by unfold ab_ia; rw [if_neg (by decide), if_neg (by decide), if_neg (by decide), if_pos rfl]]
  show (match ab_al (some (L, xs)) (wp_h S) 13000 with | some m => ab_go (pc + 1) ls (.int (Int32.ofNat m) :: st) (wp_h S) | none => none) = _
  rw [e3]
  rfl) k
end LX
end LW
