section XK
variable {X : Nat × (Nat → Int32)} {M : xv_M} {Post : xv_P} {cells slots pc q : Nat} {lv lv' : List (Nat × Value)} {st : List Value} {h : xv_H} {n : Nat} {a : Nat}
theorem xv_aom {ty : FieldType} {u U : State} (hvm : u.vm.Alike U.vm) (h : va_Nw (.arrayOver ty) u) : va_Nw (.arrayOver ty) U := by
  have hf : ∀ s : String, U.vm.findClass s = u.vm.findClass s := fun s => by rw [hvm.findClass]
  unfold va_Nw Cond.before Cond.holds at h ⊢
  simp only [Cond.value, beq_iff_eq, Option.bind_eq_some_iff, Option.map_eq_some_iff] at h ⊢
  obtain ⟨comp, h1, c, h2, k, h3, h4⟩ := h
  have hi := (va_idx_bare U.vm comp).symm.trans ((congrArg (fun vm : Vm => vm.classes.findIdx? _) (show U.vm.bare = u.vm.bare by first | rw [hvm.bare_eq] | rw [← hvm.bare_eq])).trans (va_idx_bare u.vm comp))
  obtain ⟨k', hk', he⟩ := hvm.2.2 _ _ h3
  have hkd : k'.kind = k.kind := by rw [he]
  refine ⟨comp, ?_, c, hi.trans h2, k', hk', ?_⟩
  · cases ty <;> first | exact h1 | exact (hf _).trans h1
  · rw [hkd, hf]
    exact h4
theorem xv_nwm {u U : State} (hW : u.WarmedH U.vm) (h : ∀ w ∈ xv_nw, va_Nw w u) : ∀ w ∈ xv_nw, va_Nw w U := by
  intro w hw
  have h0 := h w hw
  have h1 := (List.mem_filter.mp hw).2
  match w, h0, h1 with
  | .methodLinkNest _ _ _ _, h0, _ => exact va_Nw.warmM hW h0
  | .fieldLinkNest _ _ _ _ _ _, h0, _ => exact va_Nw.warmF hW h0
  | .arrayOver _, h0, _ => exact xv_aom hW.alike h0
theorem xv_nwv {u U : State} (hv : u.vm = U.vm) (h : ∀ w ∈ xv_nw, va_Nw w u) : ∀ w ∈ xv_nw, va_Nw w U := by
  intro w hw
  have h0 := h w hw
  have h1 := (List.mem_filter.mp hw).2
  match w, h0, h1 with
  | .methodLinkNest _ _ _ _, h0, _ => exact va_tabs rfl hv h0
  | .fieldLinkNest _ _ _ _ _ _, h0, _ => exact va_tabs rfl hv h0
  | .arrayOver _, h0, _ => exact xv_aom (by rw [hv]; exact Vm.Alike.refl _) h0
theorem xv_Wm {D : va_G} {A : Nat → Prop} {ad : Nat → Nat} {h : xv_H} {n : Nat} {u U : State} {H : Heap} (hvm : u.vm.Alike U.vm) (hW : xv_W D A ad h n u H) : xv_W D A ad h n U H := by
  obtain ⟨h0, cA, h1, h2, h3, h4⟩ := hW
  exact ⟨h0, cA, h1, h2, fun i hi ty x he => ⟨arrOfT_moved hvm (h3 i hi ty x he).1, (h3 i hi ty x he).2.moved hvm⟩, h4⟩
def xv_A (ad : Nat → Nat) (n sz : Nat) : Nat → Prop := fun q => (∃ i, i < n ∧ q = ad i) ∨ sz ≤ q
def xv_Pc (X : Nat × (Nat → Int32)) (D : va_G) (ad : Nat → Nat) (as : List Value) (h : xv_H) (n sz : Nat) : Array Value → State → Prop := fun v U => v = (as.map (xv_r ad)).toArray ∧ U.heap.size = sz ∧ xv_W D (xv_A ad n sz) ad h n U U.heap ∧ va_K D xv_cl [] U ∧ xv_R X (xv_A ad n sz) ad U U.heap ∧ ∀ w ∈ as, xv_v n w
def xv_Qc (D : va_G) (ad : Nat → Nat) (n sz : Nat) (Post : xv_P) : Array Value → State → Outcome → State → Prop := fun _ s o t => (∃ (v : Option Value) (ad' : Nat → Nat) (h' : xv_H) (n' : Nat), o = .returned (v.map (xv_r ad')) ∧ n ≤ n' ∧ (∀ i, i < n ∨ 1000 ≤ i → ad' i = ad i) ∧ xv_W D (xv_A ad n sz) ad' h' n' t t.heap ∧ (∀ w, v = some w → xv_v n' w) ∧ Post v h' n') ∧ va_F (xv_A ad n sz) s t
/-- a method's contract -/
def xv_K (y : MethodName) (M : xv_M) (Pre : List Value → xv_H → Nat → xv_P → Prop) : Prop := ∀ (l : Launch) (X : Nat × (Nat → Int32)) (D : va_G) (ad : Nat → Nat) (as : List Value) (h : xv_H) (n sz : Nat) (Post : xv_P), Pre as h n Post →
  Met l y (Cond.code y M.2.1 M.2.2.1 M.2.2.2.2.1 :: xv_g) M.2.2.2.2.2 (xv_Pc X D ad as h n sz) (xv_Qc D ad n sz Post) M.2.2.2.2.2.cells M.2.2.2.2.2.slots (xv_A ad n sz)
theorem xv_slr (ad : Nat → Nat) (as : List Value) : (lg_sl (as.map (xv_r ad))).length = (lg_sl as).length := by
  induction as with
  | nil => rfl
  | cons v as ih =>
    show (List.flatMap _ (_ :: _)).length = (List.flatMap _ (_ :: _)).length
    rw [List.flatMap_cons, List.flatMap_cons, List.length_append, List.length_append]
    congr 1
    rw [xv_rcat]
    by_cases hc : v.category = 2
    · rw [if_pos hc, if_pos hc]
      rfl
    · rw [if_neg hc, if_neg hc]
      rfl
theorem xv_argr (ad : Nat → Nat) : ∀ (as : List Value) (i : Nat), lv_args i (as.map (xv_r ad)) = xv_lr ad (lv_args i as)
  | [], _ => rfl
  | v :: as, i => by
    show (i, xv_r ad v) :: lv_args (if (xv_r ad v).category = 2 then i + 2 else i + 1) (as.map (xv_r ad)) = (i, xv_r ad v) :: xv_lr ad (lv_args (if v.category = 2 then i + 2 else i + 1) as)
    rw [xv_rcat, xv_argr ad as]
theorem xv_argv {n : Nat} : ∀ (as : List Value) (i : Nat), (∀ w ∈ as, xv_v n w) → ∀ q ∈ lv_args i as, xv_v n q.2
  | [], _, _, q, hq => by cases hq
  | v :: as, i, h, q, hq => by
    rcases List.mem_cons.mp hq with e | e
    · rw [e]; exact h v List.mem_cons_self
    · exact xv_argv as _ (xv_tl h) q e
theorem xv_entry {y : MethodName} {Pre : List Value → xv_H → Nat → xv_P → Prop} (hy : plainFor y = true) (hc : y.cls = M.1) (hini : M.2.2.2.1 = true → y.name = "<init>") (body : ∀ (X : Nat × (Nat → Int32)) (as : List Value) (h : xv_H) (n : Nat) (Post : xv_P), Pre as h n Post → (lg_sl as).length ≤ M.2.2.1 ∧ xv_V X M Post 0 0 0 (lv_args 0 as) [] h n) : xv_K y M Pre := by
  intro l X D ad as h n sz Post hpre
  obtain ⟨hlen, hV⟩ := body X as h n Post hpre
  refine va_MetF (cc := M.2.1) (maxL := M.2.2.1) (ret := M.2.2.2.2.1) hy rfl ?_
  intro p e s m args below meth c s₁ B hml hv
  obtain ⟨rfl, hsz, hW, hK, hR, hva⟩ := hv
  subst hsz
  have hlocks := B.notSynchronized
  have hx := B.exec
  have hb := B.bytes
  have hr := B.returns
  have hts := atoms_spec (ws := Cond.code y M.2.1 M.2.2.1 M.2.2.2.2.1 :: xv_g) B.pre
  have hown : s.vm.findClass M.1 = some m.cls := by rw [← hc]; exact findClass_of_methodNamed B.named
  have hnm : meth.name = y.name := (name_of_methodNamed B.named B.method).1
  have hl := lv_entry (as.map (xv_r ad)) (n := M.2.2.1) (by rw [xv_slr]; exact hlen)
  rw [lg_entry_eq]
  generalize (lg_sl (as.map (xv_r ad)) ++ List.replicate (M.2.2.1 - (lg_sl (as.map (xv_r ad))).length) Slot.unset).toArray = ls at hl ⊢
  rw [xv_argr] at hl
  refine hV p l e s m _ below meth c D (xv_A ad n s.heap.size) ad n (MQ below (xv_Qc D ad n s.heap.size Post) _ s M.2.2.2.2.2.cells M.2.2.2.2.2.slots (xv_A ad n s.heap.size)) ⟨hx, hb, hml, hown, fun w hw => hts w (List.mem_cons_of_mem _ hw), fun hi => by rw [hnm]; exact hini hi, hK, fun q hq => Or.inr hq, hR, ?_⟩ ad s.heap [] ls ⟨Nat.le_refl _, fun _ _ => rfl, hW, va_S.rf, hl, xv_argv as 0 hva, fun v hv => by cases hv⟩
  intro v ad1 H locs cells slots ls1 pc h1 n1 hret hn1 hext hcl hsl hW1 hvv hS1 hpost
  refine W.widen hcl hsl ?_
  have fin : ∀ t : State, t.heap = H → s.WarmedH t.vm → xv_Qc D ad n s.heap.size Post (as.map (xv_r ad)).toArray s (.returned (v.map (xv_r ad1))) t := fun t ht hwt => ⟨⟨v, ad1, h1, n1, rfl, hn1, hext, by rw [ht]; exact xv_Wm hwt.alike hW1, hvv, hpost⟩, hS1.F ht⟩
  match v, hret, fin with
  | none, hret, fin => exact W.vret hx hb (hr.trans hret.1) fin hS1.2.2 hret.2
  | some (.int x), hret, fin =>
    obtain ⟨ty, h1, h2, h3⟩ := hret
    exact W.zret (v := x) hx hb (hr.trans h1) h2 fin hS1.2.2 h3
  | some (.long x), hret, fin => exact W.lret (v := x) hx hb (hr.trans hret.1) fin hS1.2.2 hret.2
  | some (.ref x), hret, fin =>
    obtain ⟨⟨C, h1⟩, h2⟩ := hret
    exact W.aret (v := .ref (ad1 x)) hx hb (hr.trans h1) (Or.inl ⟨_, rfl⟩) (Or.inr ⟨_, rfl⟩) fin hS1.2.2 h2
  | some .null, hret, fin =>
    obtain ⟨⟨C, h1⟩, h2⟩ := hret
    exact W.aret (v := .null) hx hb (hr.trans h1) (Or.inl ⟨_, rfl⟩) (Or.inl rfl) fin hS1.2.2 h2
/-- what a call needs of its caller's state, for the callee's start -/
theorem xv_pre {p : Program} {l : Launch} {e : Env} {s : State} {m : MethodId} {args : Array Value} {below : List Frame} {meth : Method} {c : Code} {D : va_G} {A : Nat → Prop} {ad0 : Nat → Nat} {n0 : Nat} {Qf : State → Prop} {ad : Nat → Nat} {H : Heap} {locs : List Loc} {ls : Array Slot} (C : xv_C X M Post p l e s m args below meth c D A ad0 n0 Qf) (Q : xv_Q M s D A ad0 n0 ad H locs ls lv st h n) {as : List Value} (has : ∀ w ∈ as, xv_v n w) :
    (∀ q, xv_A ad n H.size q → A q) ∧ FrameBlind (xv_Pc X D ad as h n H.size) ∧ ∀ U : State, U.heap = H → s.WarmedH U.vm → xv_Pc X D ad as h n H.size (as.map (xv_r ad)).toArray U := by
  obtain ⟨hn1, cA, hP, hD, ht, hve⟩ := Q.2.2.1
  have hAA : ∀ q, xv_A ad n H.size q → A q := fun q hq => by
    rcases hq with ⟨i, hi, rfl⟩ | hq
    · exact hD.2 i _ (xv_wget hi)
    · exact C.2.2.2.2.2.2.2.1 q (Nat.le_trans Q.2.2.2.1.1 hq)
  refine ⟨hAA, ?_, ?_⟩
  · rintro a U g mk ⟨q0, q1, q2, q3, q4, q5⟩
    refine ⟨q0, q1, xv_Wm (u := U) (U := U.calling g mk a) (Vm.Alike.refl U.vm) q2, va_K.moved (u := U) (U := U.calling g mk a) (Vm.Alike.refl U.vm) q3, ⟨fun j q hq => va_T.moved (u := U) (U := U.calling g mk a) (Vm.Alike.refl U.vm) (q4.1 j q hq), fun j q hq => va_Z.moved (u := U) (U := U.calling g mk a) (Vm.Alike.refl U.vm) (q4.2.1 j q hq), xv_nwv (u := U) (U := U.calling g mk a) rfl q4.2.2⟩, q5⟩
  · intro U hU hWU
    have hR := C.2.2.2.2.2.2.2.2.1
    have hadj : ∀ j, ad (1000 + j) = ad0 (1000 + j) := fun j => Q.2.1 _ (Or.inr (Nat.le_add_right _ _))
    refine ⟨rfl, by rw [hU], ?_, va_K.moved hWU.alike C.2.2.2.2.2.2.1, ⟨fun j q hq => ?_, fun j q hq => ?_, xv_nwm hWU hR.2.2⟩, has⟩
    · rw [hU]
      refine xv_Wm hWU.alike ⟨hn1, cA, hP, ⟨hD.1, fun k q hk => ?_⟩, ht, hve⟩
      obtain ⟨hk1, rfl⟩ := xv_wlt hk
      exact Or.inl ⟨k, hk1, rfl⟩
    · rw [hU, hadj]
      exact ((va_T.kept (hR.1 j q hq) (fun a h1 h2 => Q.2.2.2.1.2.1 a h1 h2)).narrow hAA).moved hWU.alike
    · rw [hU, hadj]
      exact ((va_Z.kept (hR.2.1 j q hq) (fun a h1 h2 => Q.2.2.2.1.2.1 a h1 h2)).narrow hAA).moved hWU.alike
abbrev xv_pu (v : Option Value) (st : List Value) : List Value := match v with
  | some w => w :: st
  | none => st
/-- behind a call -/
theorem xv_back {p : Program} {l : Launch} {e : Env} {s : State} {m : MethodId} {args : Array Value} {below : List Frame} {meth : Method} {c : Code} {D : va_G} {A : Nat → Prop} {ad0 : Nat → Nat} {n0 : Nat} {Qf : State → Prop} {ad : Nat → Nat} {H : Heap} {locs : List Loc} {ls : Array Slot} {st0 : List Value} {mc ms : Nat} {aa : Array Value} (C : xv_C X M Post p l e s m args below meth c D A ad0 n0 Qf) (Q : xv_Q M s D A ad0 n0 ad H locs ls lv st h n) (hAA : ∀ q, xv_A ad n H.size q → A q)
    (hr : va_Run p l e M.2.2.2.2.2 s m args below meth c H locs cells slots mc ms (F0 m pc ls st0) (st.map (xv_r ad)) (xv_Qc D ad n H.size (fun v h' n' => xv_V X M Post (cells + mc) (slots + ms) (pc + 3) lv (xv_pu v st) h' n') aa) (xv_A ad n H.size)) : W p l e M.2.2.2.2.2 s m args below meth c H locs cells slots Qf (F0 m pc ls st0) := by
  intro T hT Xs
  obtain ⟨v, st₀, t, T', L, h0, X', hL, e1, e2, ⟨⟨w, ad', h', n', hv, hn', hext, hW', hvv, hk⟩, hz, hkp⟩, stp⟩ := hr T hT Xs
  cases hv
  rw [h0] at hz hkp
  have hS' : va_S A s.heap T'.heap (locs ++ L) := ⟨Nat.le_trans Q.2.2.2.1.1 (by rw [e1]; exact hz), fun q h1 h2 => by rw [e1, hkp q (Nat.lt_of_lt_of_le h1 Q.2.2.2.1.1) (fun z => h2 (hAA q z))]; exact Q.2.2.2.1.2.1 q h1 h2, fun q hq => by
      rcases List.mem_append.mp hq with h | h
      · exact Q.2.2.2.1.2.2 q h
      · exact hAA _ (hL q h)⟩
  have hal : t.vm.Alike s.vm := by rw [← e2]; exact X'.warmed.alike.symm
  have hW'' : xv_W D A ad' h' n' s T'.heap := by
    rw [e1]
    obtain ⟨g0, cA, g1, g2, g3, g4⟩ := xv_Wm hal hW'
    exact ⟨g0, cA, g1, ⟨g2.1, fun k q hk => hAA _ (g2.2 k q hk)⟩, g3, g4⟩
  have hst : ∀ v ∈ xv_pu w st, xv_v n' v := by
    cases w with
    | none => exact fun v hv => xv_vmono hn' (Q.2.2.2.2.2.2 v hv)
    | some w => exact xv_cons (hvv w rfl) (fun v hv => xv_vmono hn' (Q.2.2.2.2.2.2 v hv))
  have hfin := hk p l e s m args below meth c D A ad0 n0 Qf C ad' T'.heap (locs ++ L) ls (xv_Qnew Q hn' hext hW'' hS' hst)
  have hl : (xv_pu w st).map (xv_r ad') = (w.map (xv_r ad')).toList ++ st.map (xv_r ad) := by
    cases w with
    | none => exact xv_srext hext Q.2.2.2.2.2.2
    | some w => show xv_r ad' w :: st.map (xv_r ad') = _; rw [xv_srext hext Q.2.2.2.2.2.2]; rfl
  rw [hl] at hfin
  obtain ⟨t2, a1, b1⟩ := hfin T' rfl X'
  exact ⟨t2, stp t2 a1, b1⟩
/-- how the callee's room fits the caller's -/
def xv_fit (R R' : Room) (maxL : Nat) : Prop := R'.frames + 1 ≤ R.frames ∧ 8 + (maxL + 11) + R'.locals ≤ R.locals
def xv_lV (own : String) (i : Nat) (y : MethodName) (M' : xv_M) (k : Nat) : Prop := Cond.methodLink own i y ∈ xv_g ∧ Cond.instanceMethod y ∈ xv_g ∧ Cond.selects M'.1 y y ∈ xv_g ∧ Cond.initialized M'.1 ∈ xv_g ∧ Cond.code y M'.2.1 M'.2.2.1 M'.2.2.2.2.1 ∈ xv_g ∧
  y.cls = M'.1 ∧ y.cls ≠ "java/lang/invoke/MethodHandle" ∧ y.cls ≠ "java/lang/invoke/VarHandle" ∧ (parseMethodDescriptor y.desc).map (fun d => d.parameters.length) = some k
def xv_lS (own : String) (i : Nat) (y : MethodName) (M' : xv_M) (k : Nat) : Prop := (Cond.methodLink own i y ∈ xv_g ∨ Cond.methodLinkNest own i y "ValveShop" ∈ xv_nw) ∧ Cond.static y ∈ xv_g ∧ Cond.initialized y.cls ∈ xv_g ∧ Cond.code y M'.2.1 M'.2.2.1 M'.2.2.2.2.1 ∈ xv_g ∧
  y.cls ≠ "java/lang/invoke/MethodHandle" ∧ y.cls ≠ "java/lang/invoke/VarHandle" ∧ (parseMethodDescriptor y.desc).map (fun d => d.parameters.length) = some k
def xv_lI (own : String) (i : Nat) (y : MethodName) (M' : xv_M) (k : Nat) : Prop := (Cond.methodLink own i y ∈ xv_g ∨ Cond.methodLinkNest own i y "ValveShop" ∈ xv_nw) ∧ Cond.instanceMethod y ∈ xv_g ∧ Cond.initialized y.cls ∈ xv_g ∧ Cond.code y M'.2.1 M'.2.2.1 none ∈ xv_g ∧ M'.2.2.2.2.1 = none ∧ y.name = "<init>" ∧
  y.cls ≠ "java/lang/invoke/MethodHandle" ∧ y.cls ≠ "java/lang/invoke/VarHandle" ∧ (parseMethodDescriptor y.desc).map (fun d => d.parameters.length) = some k
theorem xv_good {y : MethodName} {cc : ByteArray} {k : Nat} {ret : Option FieldType} (h : Cond.code y cc k ret ∈ xv_g) : GoodIn xv_g (Cond.code y cc k ret :: xv_g) := fun w hw => by
  have hm : w ∈ xv_g := (List.mem_cons.mp hw).elim (fun e => e ▸ h) id
  exact ⟨hm, good_of_word (List.mem_filter.mp hm).2⟩
theorem xv_callV {i ci : Nat} {fs : List Value} {y : MethodName} {M' : xv_M} {Pre : List Value → xv_H → Nat → xv_P → Prop} {as st0 : List Value} (hK : xv_K y M' Pre) (hL : xv_lV M.1 i y M' as.length) (hd : decode M.2.1 pc = .ok (.invokevirtual i, 3)) (hst0 : st0 = as.reverse ++ .ref a :: st) (hh : a < n ∧ h a = .inr (ci, fs)) (hci : (xv_cl[ci]?).map (·.1) = some M'.1) (hfit : xv_fit M.2.2.2.2.2 M'.2.2.2.2.2 M'.2.2.1) (hcat : (st.map fun v => v.category).sum ≤ 8) (hcl : cells + M'.2.2.2.2.2.cells ≤ M.2.2.2.2.2.cells) (hsl : slots + M'.2.2.2.2.2.slots ≤ M.2.2.2.2.2.slots) (hq : pc + 3 = q)
    (hpre : Pre (.ref a :: as) h n (fun v h' n' => xv_V X M Post (cells + M'.2.2.2.2.2.cells) (slots + M'.2.2.2.2.2.slots) q lv (xv_pu v st) h' n')) : xv_V X M Post cells slots pc lv st0 h n := by
  subst hq
  subst hst0
  intro p l e s m args below meth c D A ad0 n0 Qf C ad H locs ls Q
  have Q2 : xv_Q M s D A ad0 n0 ad H locs ls lv st h n := ⟨Q.1, Q.2.1, Q.2.2.1, Q.2.2.2.1, Q.2.2.2.2.1, Q.2.2.2.2.2.1, fun v hv => Q.2.2.2.2.2.2 v (List.mem_append_right _ (List.mem_cons_of_mem _ hv))⟩
  obtain ⟨hAA, hfb, hpc⟩ := xv_pre C Q2 (as := .ref a :: as) (fun v hv => (List.mem_cons.mp hv).elim (fun e => by rw [e]; exact Or.inl hh.1) (fun hm => Q.2.2.2.2.2.2 v (List.mem_append_left _ (List.mem_reverse.mpr hm))))
  obtain ⟨hn1, cA, hP, hD, ht, hve⟩ := Q.2.2.1
  have he : (xv_w ad cA h n)[a]? = some (ad a, .inr (ci, fs.map (xv_r ad))) := by rw [xv_wget hh.1, hh.2]; rfl
  obtain ⟨qc, hqc, hqc1⟩ := Option.map_eq_some_iff.mp hci
  obtain ⟨l1, l2, l3, l4, l5, l6⟩ := hL
  refine xv_back (aa := (Value.ref (ad a) :: as.map (xv_r ad)).toArray) C Q2 hAA (va_runV (As := as.map (xv_r ad)) (b := ad a) (C := M'.1) ⟨C.1, C.2.1, C.2.2.1, C.2.2.2.1, C.2.2.2.2.1⟩ (hK l X D ad (.ref a :: as) h n H.size _ hpre) (cwV as.length C.2.2.2.2.1 (fun w hw => ?_) rfl rfl rfl l6 hfit) ⟨hfb, by rw [← hqc1]; exact va_recv C.2.2.2.2.2.2.1 hP hqc he, hpc⟩ rfl (by rw [List.length_map]) Q.2.2.2.2.1.1 (by rw [List.map_append, List.map_reverse]; rfl) (lv_room (by rw [xv_sumc]; exact hcat)) hd ⟨hcl, hsl⟩)
  rcases List.mem_append.mp hw with hw | hw
  · have hw2 : w ∈ xv_g := by
      rcases List.mem_cons.mp hw with rfl | hw
      · exact l1
      rcases List.mem_cons.mp hw with rfl | hw
      · exact l2
      rcases List.mem_cons.mp hw with rfl | hw
      · exact l3
      rcases List.mem_cons.mp hw with rfl | hw
      · exact l4
      cases hw
    exact ⟨hw2, good_of_word (List.mem_filter.mp hw2).2⟩
  · exact xv_good l5 w hw
theorem xv_callS {i : Nat} {y : MethodName} {M' : xv_M} {Pre : List Value → xv_H → Nat → xv_P → Prop} {as st0 : List Value} (hK : xv_K y M' Pre) (hL : xv_lS M.1 i y M' as.length) (hd : decode M.2.1 pc = .ok (.invokestatic i, 3)) (hst0 : st0 = as.reverse ++ st) (hfit : xv_fit M.2.2.2.2.2 M'.2.2.2.2.2 M'.2.2.1) (hcat : (st.map fun v => v.category).sum ≤ 8) (hcl : cells + M'.2.2.2.2.2.cells ≤ M.2.2.2.2.2.cells) (hsl : slots + M'.2.2.2.2.2.slots ≤ M.2.2.2.2.2.slots) (hq : pc + 3 = q)
    (hpre : Pre as h n (fun v h' n' => xv_V X M Post (cells + M'.2.2.2.2.2.cells) (slots + M'.2.2.2.2.2.slots) q lv (xv_pu v st) h' n')) : xv_V X M Post cells slots pc lv st0 h n := by
  subst hq
  subst hst0
  intro p l e s m args below meth c D A ad0 n0 Qf C ad H locs ls Q
  have Q2 : xv_Q M s D A ad0 n0 ad H locs ls lv st h n := ⟨Q.1, Q.2.1, Q.2.2.1, Q.2.2.2.1, Q.2.2.2.2.1, Q.2.2.2.2.2.1, fun v hv => Q.2.2.2.2.2.2 v (List.mem_append_right _ hv)⟩
  obtain ⟨hAA, hfb, hpc⟩ := xv_pre C Q2 (as := as) (fun v hm => Q.2.2.2.2.2.2 v (List.mem_append_left _ (List.mem_reverse.mpr hm)))
  obtain ⟨l1, l2, l3, l4, l5⟩ := hL
  rcases l1 with l1 | l1
  · refine xv_back (aa := (as.map (xv_r ad)).toArray) C Q2 hAA (va_runS (As := as.map (xv_r ad)) ⟨C.1, C.2.1, C.2.2.1, C.2.2.2.1, C.2.2.2.2.1⟩ (hK l X D ad as h n H.size _ hpre) (va_cwS as.length C.2.2.2.2.1 (fun w hw => ?_) rfl rfl rfl l5 hfit) ⟨hfb, hpc⟩ rfl (by rw [List.length_map]) Q.2.2.2.2.1.1 (by rw [List.map_append, List.map_reverse]) (lv_room (by rw [xv_sumc]; exact hcat)) hd ⟨hcl, hsl⟩)
    rcases List.mem_append.mp hw with hw | hw
    · have hw2 : w ∈ xv_g := by
        rcases List.mem_cons.mp hw with rfl | hw
        · exact l1
        rcases List.mem_cons.mp hw with rfl | hw
        · exact l2
        rcases List.mem_cons.mp hw with rfl | hw
        · exact l3
        cases hw
      exact ⟨hw2, good_of_word (List.mem_filter.mp hw2).2⟩
    · exact xv_good l4 w hw
  · exact xv_back (aa := (as.map (xv_r ad)).toArray) C Q2 hAA (va_runSN (As := as.map (xv_r ad)) (host := "ValveShop") ⟨C.1, C.2.1, C.2.2.1, C.2.2.2.1, C.2.2.2.2.1⟩ (hK l X D ad as h n H.size _ hpre) ⟨va_cnB as.length C.2.2.2.2.1 (xv_good l4) rfl rfl rfl (C.2.2.2.2.2.2.2.2.1.2.2 _ l1) (C.2.2.2.2.1 _ l3) l5 hfit, C.2.2.2.2.1 _ l2, trivial⟩ ⟨hfb, hpc⟩ rfl (by rw [List.length_map]) Q.2.2.2.2.1.1 (by rw [List.map_append, List.map_reverse]) (lv_room (by rw [xv_sumc]; exact hcat)) hd ⟨hcl, hsl⟩)
theorem xv_callI {i : Nat} {y : MethodName} {M' : xv_M} {Pre : List Value → xv_H → Nat → xv_P → Prop} {as st0 : List Value} (hK : xv_K y M' Pre) (hL : xv_lI M.1 i y M' as.length) (hd : decode M.2.1 pc = .ok (.invokespecial i, 3)) (hst0 : st0 = as.reverse ++ .ref a :: st) (hfit : xv_fit M.2.2.2.2.2 M'.2.2.2.2.2 M'.2.2.1) (hcat : (st.map fun v => v.category).sum ≤ 8) (hcl : cells + M'.2.2.2.2.2.cells ≤ M.2.2.2.2.2.cells) (hsl : slots + M'.2.2.2.2.2.slots ≤ M.2.2.2.2.2.slots) (hq : pc + 3 = q)
    (hpre : Pre (.ref a :: as) h n (fun v h' n' => xv_V X M Post (cells + M'.2.2.2.2.2.cells) (slots + M'.2.2.2.2.2.slots) q lv (xv_pu v st) h' n')) : xv_V X M Post cells slots pc lv st0 h n := by
  subst hq
  subst hst0
  intro p l e s m args below meth c D A ad0 n0 Qf C ad H locs ls Q
  have Q2 : xv_Q M s D A ad0 n0 ad H locs ls lv st h n := ⟨Q.1, Q.2.1, Q.2.2.1, Q.2.2.2.1, Q.2.2.2.2.1, Q.2.2.2.2.2.1, fun v hv => Q.2.2.2.2.2.2 v (List.mem_append_right _ (List.mem_cons_of_mem _ hv))⟩
  obtain ⟨hAA, hfb, hpc⟩ := xv_pre C Q2 (as := .ref a :: as) (fun v hv => (List.mem_cons.mp hv).elim (fun e => by rw [e]; exact Q.2.2.2.2.2.2 _ (List.mem_append_right _ List.mem_cons_self)) (fun hm => Q.2.2.2.2.2.2 v (List.mem_append_left _ (List.mem_reverse.mpr hm))))
  obtain ⟨l1, l2, l3, l4, l7, l8, l5⟩ := hL
  have hKK := hK l X D ad (.ref a :: as) h n H.size _ hpre
  rw [l7] at hKK
  rcases l1 with l1 | l1
  · exact xv_back (aa := (Value.ref (ad a) :: as.map (xv_r ad)).toArray) C Q2 hAA (va_runI (As := as.map (xv_r ad)) (b := ad a) ⟨C.1, C.2.1, C.2.2.1, C.2.2.2.1, C.2.2.2.2.1⟩ hKK (cwI as.length C.2.2.2.2.1 (xv_good l4) rfl rfl rfl (C.2.2.2.2.1 _ l3) (C.2.2.2.2.1 _ l1) (C.2.2.2.2.1 _ l2) l8 l5 hfit) ⟨hfb, hpc⟩ rfl (by rw [List.length_map]) Q.2.2.2.2.1.1 (by rw [List.map_append, List.map_reverse]; rfl) (lv_room (by rw [xv_sumc]; exact hcat)) hd ⟨hcl, hsl⟩)
  · exact xv_back (aa := (Value.ref (ad a) :: as.map (xv_r ad)).toArray) C Q2 hAA (va_runIN (As := as.map (xv_r ad)) (b := ad a) (host := "ValveShop") ⟨C.1, C.2.1, C.2.2.1, C.2.2.2.1, C.2.2.2.2.1⟩ hKK ⟨va_cnB as.length C.2.2.2.2.1 (xv_good l4) rfl rfl rfl (C.2.2.2.2.2.2.2.2.1.2.2 _ l1) (C.2.2.2.2.1 _ l3) l5 hfit, l8, C.2.2.2.2.1 _ l2⟩ ⟨hfb, hpc⟩ rfl (by rw [List.length_map]) Q.2.2.2.2.1.1 (by rw [List.map_append, List.map_reverse]; rfl) (lv_room (by rw [xv_sumc]; exact hcat)) hd ⟨hcl, hsl⟩)
end XK
