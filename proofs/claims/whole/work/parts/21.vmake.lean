section XA
variable {X : Nat × (Nat → Int32)} {M : xv_M} {Post : xv_P} {cells slots pc q : Nat} {lv lv' : List (Nat × Value)} {st : List Value} {h : xv_H} {n : Nat} {a : Nat}
/-- a world, one cell more -/
theorem xv_Wnew {D : va_G} {A : Nat → Prop} {ad : Nat → Nat} {s : State} {H1 : Heap} {cA : Nat → ClassId} {qa : Nat} {cy : ClassId} (hn : n < 1000) (ht : xv_t s cA h n) (hv : ∀ i, i < n → xv_ve n (h i)) (e : xv_E)
    (hP : va_P D xv_cl (xv_w ad cA h n ++ [(qa, xv_c ad cy e)]) H1) (hD : va_D A (xv_w ad cA h n ++ [(qa, xv_c ad cy e)])) (ht' : ∀ ty x, e = .inl (ty, x) → ArrOfT s cy ty ∧ va_RA s cy ty) (hve : xv_ve n e) : (∀ i, i < n ∨ 1000 ≤ i → va_up ad n qa i = ad i) ∧ xv_W D A (va_up ad n qa) (va_up h n e) (n + 1) s H1 := by
  have hx : ∀ i, i < n ∨ 1000 ≤ i → va_up ad n qa i = ad i := fun i hi => va_up_ne _ _ (by omega)
  have hw : xv_w ad cA h n ++ [(qa, xv_c ad cy e)] = xv_w (va_up ad n qa) (va_up cA n cy) (va_up h n e) (n + 1) := by
    show _ = (List.range (n + 1)).map _
    rw [List.range_succ, List.map_append]
    congr 1
    · apply List.map_congr_left
      intro i hi
      have hi := List.mem_range.mp hi
      rw [hx i (Or.inl hi), va_up_ne cA _ (by omega), va_up_ne h _ (by omega), xv_cext hx (hv i hi)]
    · show [(qa, xv_c ad cy e)] = [(va_up ad n qa n, xv_c (va_up ad n qa) (va_up cA n cy n) (va_up h n e n))]
      rw [va_up_self, va_up_self, va_up_self, xv_cext hx hve]
  rw [hw] at hP hD
  refine ⟨hx, by omega, va_up cA n cy, hP, hD, fun i hi ty x he => ?_, fun i hi => ?_⟩
  · by_cases hin : i = n
    · subst hin
      rw [va_up_self] at he ⊢
      exact ht' ty x he
    · rw [va_up_ne _ _ hin] at he ⊢
      exact ht i (by omega) ty x he
  · by_cases hin : i = n
    · subst hin
      rw [va_up_self]
      exact xv_vemono (Nat.le_succ _) hve
    · rw [va_up_ne _ _ hin]
      exact xv_vemono (Nat.le_succ _) (hv i (by omega))
/-- the state of a frame, behind a making -/
theorem xv_Qnew {s : State} {D : va_G} {A : Nat → Prop} {ad0 : Nat → Nat} {n0 : Nat} {ad ad' : Nat → Nat} {H H1 : Heap} {locs locs1 : List Loc} {ls : Array Slot} {st' : List Value} {h' : xv_H} {n' : Nat} (Q : xv_Q M s D A ad0 n0 ad H locs ls lv st h n) (hn : n ≤ n') (hx : ∀ i, i < n ∨ 1000 ≤ i → ad' i = ad i) (hW : xv_W D A ad' h' n' s H1) (hS : va_S A s.heap H1 locs1) (hst : ∀ v ∈ st', xv_v n' v) : xv_Q M s D A ad0 n0 ad' H1 locs1 ls lv st' h' n' := by
  refine ⟨Nat.le_trans Q.1 hn, fun i hi => ?_, hW, hS, ?_, fun x hx => xv_vmono hn (Q.2.2.2.2.2.1 x hx), hst⟩
  · rw [hx i (hi.elim (fun z => Or.inl (Nat.lt_of_lt_of_le z Q.1)) Or.inr), Q.2.1 i hi]
  · rw [xv_lrext hx Q.2.2.2.2.2.1]
    exact Q.2.2.2.2.1
theorem xi_new {i ci N : Nat} {CC : String} {T : u_T} {ty0 : Nat → FieldType} {fs : List Value} (hd : decode M.2.1 pc = .ok (.new i, 3)) (hc : xv_cl[ci]? = some (CC, T, N)) (hin : ∀ w ∈ u_ws CC T N, w ∈ xv_g) (hty : ∀ k, k < N → parseFieldDescriptor (T k).2.2.1 = some (ty0 k)) (hw : Cond.classLink M.1 i CC ∈ xv_g ∧ Cond.instantiable CC N ∈ xv_g ∧ Cond.initialized CC ∈ xv_g) (hfs : ∀ j, j < N → defaultValue (ty0 j) = vp_V fs j) (hall : ∀ v ∈ fs, v = .null ∨ v = .int 0 ∨ v = .long 0) (hn : n < 1000) (hcl : cells + 1 ≤ M.2.2.2.2.2.cells) (hsl : slots + N ≤ M.2.2.2.2.2.slots) (hq : pc + 3 = q)
    (kk : xv_V X M Post (cells + 1) (slots + N) q lv (.ref n :: st) (va_up h n (.inr (ci, fs))) (n + 1)) : xv_V X M Post cells slots pc lv st h n := by
  subst hq
  intro p l e s m args below meth c D A ad0 n0 Qf C ad H locs ls Q
  obtain ⟨hn1, cA, hP, hD, ht, hve⟩ := Q.2.2.1
  refine va_new C.1 C.2.1 C.2.2.2.2.1 hin ty0 hty C.2.2.2.1 (C.2.2.2.2.1 _ hw.1) (C.2.2.2.2.1 _ hw.2.1) (C.2.2.2.2.1 _ hw.2.2) C.2.2.2.2.2.2.1 hP hD Q.2.2.2.1 C.2.2.2.2.2.2.2.1 hc hfs hcl hsl hd fun qa H1 hP1 hD1 hS1 => ?_
  have hfr : fs.map (xv_r ad) = fs := by
    conv => rhs; rw [← List.map_id fs]
    refine List.map_congr_left fun v hv => ?_
    rcases hall v hv with rfl | rfl | rfl <;> rfl
  have hv0 : xv_ve n (.inr (ci, fs)) := fun v hv => by rcases hall v hv with rfl | rfl | rfl <;> trivial
  obtain ⟨hx, hW⟩ := xv_Wnew (cy := 0) (ad := ad) hn ht hve (.inr (ci, fs)) (by show va_P _ _ (_ ++ [(qa, Sum.inr (ci, fs.map (xv_r ad)))]) _; rw [hfr]; exact hP1) (by show va_D _ (_ ++ [(qa, Sum.inr (ci, fs.map (xv_r ad)))]); rw [hfr]; exact hD1) (fun _ _ h => by cases h) hv0
  have hk := kk p l e s m args below meth c D A ad0 n0 Qf C _ H1 locs ls (xv_Qnew Q (Nat.le_succ n) hx hW hS1 (xv_cons (Or.inl (Nat.lt_succ_self n)) (fun w hw => xv_vmono (Nat.le_succ n) (Q.2.2.2.2.2.2 w hw))))
  rw [List.map_cons, xv_srext hx Q.2.2.2.2.2.2, show xv_r (va_up ad n qa) (.ref n) = .ref qa from congrArg Value.ref (va_up_self ad n qa)] at hk
  exact hk
theorem xi_newa {at_ : ArrayType} {ty : FieldType} {k : Int32} {N : Nat} (hd : decode M.2.1 pc = .ok (.newarray at_, 2)) (hty : newarray.typeOf at_ = ty) (hw : Cond.arrayClass ty ∈ xv_g) (ha : ∀ cA : ClassId, vp_cell cA (N, .inl (fun _ => 0)) = arrV cA N (fun _ => defaultValue ty)) (hk0 : ¬ k < 0) (hN : k.toNatClampNeg = N) (hb : N * componentBytes ty ≤ 536870912) (hn : n < 1000) (hcl : cells + 1 ≤ M.2.2.2.2.2.cells) (hsl : slots + N ≤ M.2.2.2.2.2.slots) (hq : pc + 2 = q)
    (kk : xv_V X M Post (cells + 1) (slots + N) q lv (.ref n :: st) (va_up h n (.inl (ty, N, .inl (fun _ => 0)))) (n + 1)) : xv_V X M Post cells slots pc lv (.int k :: st) h n := by
  subst hq
  intro p l e s m args below meth c D A ad0 n0 Qf C ad H locs ls Q
  obtain ⟨hn1, cA, hP, hD, ht, hve⟩ := Q.2.2.1
  refine va_newa C.1 C.2.1 (atype := at_) (by rw [hty]; exact C.2.2.2.2.1 _ hw) hty C.2.2.2.2.2.2.1 hP hD Q.2.2.2.1 C.2.2.2.2.2.2.2.1 ha hk0 hN hb hcl hsl hd fun qa cy H1 hK1 hP1 hD1 hS1 => ?_
  have hcy : ArrOfT s cy ty ∧ va_RA s cy ty := hK1.2 0 _ rfl
  obtain ⟨hx, hW⟩ := xv_Wnew (cy := cy) (ad := ad) hn ht hve (.inl (ty, N, .inl (fun _ => 0))) hP1 hD1 (fun _ _ h => by cases h; exact hcy) trivial
  have hk := kk p l e s m args below meth c D A ad0 n0 Qf C _ H1 locs ls (xv_Qnew Q (Nat.le_succ n) hx hW hS1 (xv_cons (Or.inl (Nat.lt_succ_self n)) (fun w hw => xv_vmono (Nat.le_succ n) (xv_tl Q.2.2.2.2.2.2 w hw))))
  rw [List.map_cons, xv_srext hx (xv_tl Q.2.2.2.2.2.2), show xv_r (va_up ad n qa) (.ref n) = .ref qa from congrArg Value.ref (va_up_self ad n qa)] at hk
  exact hk
theorem xi_anewa {i : Nat} {CC : String} {k : Int32} {N : Nat} (hd : decode M.2.1 pc = .ok (.anewarray i, 3)) (hw : Cond.classLink M.1 i CC ∈ xv_g) (hov : Cond.arrayOver (.object CC) ∈ xv_nw) (hk0 : ¬ k < 0) (hN : k.toNatClampNeg = N) (hb : N * 4 ≤ 536870912) (hn : n < 1000) (hcl : cells + 1 ≤ M.2.2.2.2.2.cells) (hsl : slots + N ≤ M.2.2.2.2.2.slots) (hq : pc + 3 = q)
    (kk : xv_V X M Post (cells + 1) (slots + N) q lv (.ref n :: st) (va_up h n (.inl (.object CC, N, .inr (.inr (.inr (.inr (fun _ => none))))))) (n + 1)) : xv_V X M Post cells slots pc lv (.int k :: st) h n := by
  subst hq
  intro p l e s m args below meth c D A ad0 n0 Qf C ad H locs ls Q
  obtain ⟨hn1, cA, hP, hD, ht, hve⟩ := Q.2.2.1
  refine va_newq C.1 C.2.1 C.2.2.2.1 (C.2.2.2.2.1 _ hw) (va_AO.of (C.2.2.2.2.2.2.2.2.1.2.2 _ hov)) C.2.2.2.2.2.2.1 hP hD Q.2.2.2.1 C.2.2.2.2.2.2.2.1 hk0 hN hb hcl hsl hd fun qa cy H1 hK1 hP1 hD1 hS1 => ?_
  have hcy : ArrOfT s cy (.object CC) ∧ va_RA s cy (.object CC) := hK1.2 0 _ rfl
  obtain ⟨hx, hW⟩ := xv_Wnew (cy := cy) (ad := ad) hn ht hve (.inl (.object CC, N, .inr (.inr (.inr (.inr (fun _ => none)))))) hP1 hD1 (fun _ _ h => by cases h; exact hcy) (fun _ _ h => by cases h)
  have hk := kk p l e s m args below meth c D A ad0 n0 Qf C _ H1 locs ls (xv_Qnew Q (Nat.le_succ n) hx hW hS1 (xv_cons (Or.inl (Nat.lt_succ_self n)) (fun w hw => xv_vmono (Nat.le_succ n) (xv_tl Q.2.2.2.2.2.2 w hw))))
  rw [List.map_cons, xv_srext hx (xv_tl Q.2.2.2.2.2.2), show xv_r (va_up ad n qa) (.ref n) = .ref qa from congrArg Value.ref (va_up_self ad n qa)] at hk
  exact hk
theorem xi_objInit {i : Nat} (hd : decode M.2.1 pc = .ok (.invokespecial i, 3)) (hw : Cond.methodLink M.1 i Lib.objectInit ∈ xv_g ∧ Cond.instanceMethod Lib.objectInit ∈ xv_g ∧ Cond.code Lib.objectInit ⟨#[0xb1]⟩ 1 none ∈ xv_g) (hf : 1 ≤ M.2.2.2.2.2.frames) (hlo : (st.map fun v => v.category).sum + 12 ≤ M.2.2.2.2.2.locals) (hq : pc + 3 = q) (kk : xv_V X M Post cells slots q lv st h n) : xv_V X M Post cells slots pc lv (.ref a :: st) h n := by
  subst hq
  refine xv_step kk (fun p l e s m args below meth c Qf H locs ls ad hx hb hml ho ht hz _ w => ?_) (fun _ z => xv_tl z)
  exact W.objInit hx hb ho (ht _ hw.1) (ht _ hw.2.1) (ht _ hw.2.2) rfl (hz.trans hml.symm) (a := ad a) (rest := st.map (xv_r ad)) rfl hd hf (by rw [xv_sumc]; show 2 * 0 + _ + 12 ≤ _; omega) w
end XA
