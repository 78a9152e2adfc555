/-! THE V-LAYER: heaps by places (logical addresses), one judgement xv_V over them, sound by the kit's rows -/
abbrev xv_cl : List vw_C := [(RX0, TX0, 3), (RX1, TX1, 6), (RX2, TX2, 4), (RX3, TX3, 4), (RX4, TX4, 3), (RX5, TX5, 7), (RX6, TX6, 7), (RX7, TX7, 4), (RX8, TX8, 13), (RX9, TX9, 33)]
abbrev xv_E : Type := (FieldType × vp_A) ⊕ (Nat × List Value)
abbrev xv_H : Type := Nat → xv_E
def xv_r (ad : Nat → Nat) (v : Value) : Value := match v with
  | .ref a => .ref (ad a)
  | w => w
def xv_a (ad : Nat → Nat) (a : vp_A) : vp_A := match a with
  | (n, .inr (.inr (.inr (.inr f)))) => (n, .inr (.inr (.inr (.inr (fun k => (f k).map ad)))))
  | w => w
def xv_c (ad : Nat → Nat) (cA : ClassId) (e : xv_E) : va_E := match e with
  | .inl q => .inl (cA, xv_a ad q.2)
  | .inr o => .inr (o.1, o.2.map (xv_r ad))
def xv_w (ad : Nat → Nat) (cA : Nat → ClassId) (h : xv_H) (n : Nat) : va_W := (List.range n).map fun i => (ad i, xv_c ad (cA i) (h i))
def xv_v (n : Nat) (v : Value) : Prop := match v with
  | .ref a => a < n ∨ 1000 ≤ a
  | _ => True
def xv_ve (n : Nat) (e : xv_E) : Prop := match e with
  | .inl (_, _, .inr (.inr (.inr (.inr f)))) => ∀ k b, f k = some b → b < n ∨ 1000 ≤ b
  | .inl _ => True
  | .inr o => ∀ v ∈ o.2, xv_v n v
def xv_t (U : State) (cA : Nat → ClassId) (h : xv_H) (n : Nat) : Prop := ∀ i, i < n → ∀ ty a, h i = .inl (ty, a) → ArrOfT U (cA i) ty ∧ va_RA U (cA i) ty
def xv_W (D : va_G) (A : Nat → Prop) (ad : Nat → Nat) (h : xv_H) (n : Nat) (U : State) (H : Heap) : Prop := n ≤ 1000 ∧ ∃ cA : Nat → ClassId, va_P D xv_cl (xv_w ad cA h n) H ∧ va_D A (xv_w ad cA h n) ∧ xv_t U cA h n ∧ ∀ i, i < n → xv_ve n (h i)
theorem xv_wget {ad : Nat → Nat} {cA : Nat → ClassId} {h : xv_H} {n i : Nat} (hi : i < n) : (xv_w ad cA h n)[i]? = some (ad i, xv_c ad (cA i) (h i)) := by
  simp [xv_w, hi]
theorem xv_wlt {ad : Nat → Nat} {cA : Nat → ClassId} {h : xv_H} {n i : Nat} {q : Nat × va_E} (hq : (xv_w ad cA h n)[i]? = some q) : i < n ∧ q = (ad i, xv_c ad (cA i) (h i)) := by
  by_cases hi : i < n
  · rw [xv_wget hi] at hq
    exact ⟨hi, (Option.some.inj hq).symm⟩
  · rw [List.getElem?_eq_none (by simp [xv_w]; omega)] at hq
    cases hq
theorem xv_wset {ad : Nat → Nat} {cA : Nat → ClassId} {h : xv_H} {n i : Nat} (e : xv_E) : (xv_w ad cA h n).set i (ad i, xv_c ad (cA i) e) = xv_w ad cA (va_up h i e) n := by
  apply List.ext_getElem?
  intro j
  by_cases hj : j < n
  · by_cases hi : j = i
    · subst hi
      rw [xv_wget hj, List.getElem?_set_self (by simp [xv_w]; exact hj)]
      simp [va_up]
    · rw [xv_wget hj, List.getElem?_set_ne (Ne.symm hi), xv_wget hj]
      simp [va_up, hi]
  · rw [List.getElem?_eq_none (by simp [xv_w]; omega), List.getElem?_eq_none (by simp [xv_w]; omega)]
theorem xv_wcong {ad ad' : Nat → Nat} {cA cA' : Nat → ClassId} {h h' : xv_H} {n : Nat} (e : ∀ i, i < n → ad i = ad' i ∧ xv_c ad (cA i) (h i) = xv_c ad' (cA' i) (h' i)) : xv_w ad cA h n = xv_w ad' cA' h' n := by
  apply List.ext_getElem?
  intro j
  by_cases hj : j < n
  · rw [xv_wget hj, xv_wget hj, (e j hj).1, (e j hj).2]
  · rw [List.getElem?_eq_none (by simp [xv_w]; omega), List.getElem?_eq_none (by simp [xv_w]; omega)]
theorem xv_rcat (ad : Nat → Nat) (v : Value) : (xv_r ad v).category = v.category := by cases v <;> rfl
theorem xv_rrf (ad : Nat → Nat) (r : Option Nat) : xv_r ad (va_rf r) = va_rf (r.map ad) := by cases r <;> rfl
theorem xv_rext {ad ad' : Nat → Nat} {n : Nat} (e : ∀ i, i < n ∨ 1000 ≤ i → ad' i = ad i) {v : Value} (hv : xv_v n v) : xv_r ad' v = xv_r ad v := by
  cases v with
  | ref a => show Value.ref (ad' a) = Value.ref (ad a); rw [e a hv]
  | _ => rfl
theorem xv_vmono {n n' : Nat} (h : n ≤ n') {v : Value} (hv : xv_v n v) : xv_v n' v := by
  cases v with
  | ref a =>
    rcases hv with h1 | h1
    · exact Or.inl (Nat.lt_of_lt_of_le h1 h)
    · exact Or.inr h1
  | _ => trivial
theorem xv_vemono {n n' : Nat} (h : n ≤ n') {e : xv_E} (hv : xv_ve n e) : xv_ve n' e := by
  match e, hv with
  | .inl (_, _, .inr (.inr (.inr (.inr f)))), hv => exact fun k b hb => (hv k b hb).elim (fun q => Or.inl (Nat.lt_of_lt_of_le q h)) Or.inr
  | .inl (_, _, .inl _), _ => trivial
  | .inl (_, _, .inr (.inl _)), _ => trivial
  | .inl (_, _, .inr (.inr (.inl _))), _ => trivial
  | .inl (_, _, .inr (.inr (.inr (.inl _)))), _ => trivial
  | .inr o, hv => exact fun v hm => xv_vmono h (hv v hm)
-- locals
def xv_get : List (Nat × Value) → Nat → Option Value
  | [], _ => none
  | (j, v) :: r, i => if j = i then some v else xv_get r i
def xv_set (l : List (Nat × Value)) (i : Nat) (v : Value) : List (Nat × Value) := (i, v) :: l.filter (fun q => !(q.1 == i) && !(q.1 + 1 == i && q.2.category == 2))
def xv_setL (l : List (Nat × Value)) (i : Nat) (v : Value) : List (Nat × Value) := (i, v) :: l.filter (fun q => !(q.1 == i) && (!(q.1 == i + 1) && !(q.1 + 1 == i && q.2.category == 2)))
def xv_lr (ad : Nat → Nat) (l : List (Nat × Value)) : List (Nat × Value) := l.map fun q => (q.1, xv_r ad q.2)
theorem xv_gm {l : List (Nat × Value)} {i : Nat} {v : Value} (h : xv_get l i = some v) : (i, v) ∈ l := by
  induction l with
  | nil => cases h
  | cons q l ih =>
    obtain ⟨j, w⟩ := q
    by_cases hj : j = i
    · rw [xv_get, if_pos hj] at h
      cases h
      rw [hj]
      exact List.mem_cons_self
    · rw [xv_get, if_neg hj] at h
      exact List.mem_cons_of_mem _ (ih h)
theorem xv_lrm {ad : Nat → Nat} {l : List (Nat × Value)} {i : Nat} {v : Value} (h : (i, v) ∈ l) : (i, xv_r ad v) ∈ xv_lr ad l := List.mem_map.mpr ⟨(i, v), h, rfl⟩
theorem xv_lrset (ad : Nat → Nat) (l : List (Nat × Value)) (i : Nat) (v : Value) : (i, xv_r ad v) :: (xv_lr ad l).filter (fun q => !(q.1 == i) && !(q.1 + 1 == i && q.2.category == 2)) = xv_lr ad (xv_set l i v) := by
  show _ = (i, xv_r ad v) :: xv_lr ad (l.filter _)
  congr 1
  unfold xv_lr
  rw [List.filter_map]
  congr 1
  apply List.filter_congr
  intro q _
  simp [xv_rcat]
theorem xv_lrsetL (ad : Nat → Nat) (l : List (Nat × Value)) (i : Nat) (v : Value) : (i, xv_r ad v) :: (xv_lr ad l).filter (fun q => !(q.1 == i) && (!(q.1 == i + 1) && !(q.1 + 1 == i && q.2.category == 2))) = xv_lr ad (xv_setL l i v) := by
  show _ = (i, xv_r ad v) :: xv_lr ad (l.filter _)
  congr 1
  unfold xv_lr
  rw [List.filter_map]
  congr 1
  apply List.filter_congr
  intro q _
  simp [xv_rcat]
theorem xv_lrext {ad ad' : Nat → Nat} {n : Nat} (e : ∀ i, i < n ∨ 1000 ≤ i → ad' i = ad i) {l : List (Nat × Value)} (hl : ∀ q ∈ l, xv_v n q.2) : xv_lr ad' l = xv_lr ad l := List.map_congr_left fun q hq => by rw [xv_rext e (hl q hq)]
theorem xv_srext {ad ad' : Nat → Nat} {n : Nat} (e : ∀ i, i < n ∨ 1000 ≤ i → ad' i = ad i) {l : List Value} (hl : ∀ q ∈ l, xv_v n q) : l.map (xv_r ad') = l.map (xv_r ad) := List.map_congr_left fun q hq => xv_rext e (hl q hq)
-- what is read, and never written: the statics' arrays, the script
def xv_rf : List (String × List Int32) := [("LEAST_NUMBER", [0, 10, 0, -20, 0, -20, 1, 20, 1, 1, 0]), ("MOST_NUMBER", [20, 200, 11, 20, 100, 50, 100, 200, 100, 100, 500]), ("LATE", [0, -1, -2, -3, 1, 2, 3, 0, 0, 0, 0, 0, 0]), ("LEAK", [0, 0, 0, 0, 0, 0, 0, 5, 10, 20, 0, 0, 0]), ("CHOKED", [0, 0, 0, 0, 0, 0, 0, 0, 0, 0, 20, 50, 100]), ("COSINES", [10000, 9914, 9659, 9239, 8660, 7934, 7071, 6088, 5000, 3827, 2588, 1305, 0, -1305, -2588, -3827, -5000, -6088, -7071, -7934, -8660, -9239, -9659, -9914, -10000, -9914, -9659, -9239, -8660, -7934, -7071, -6088, -5000, -3827, -2588, -1305, 0, 1305, 2588, 3827, 5000, 6088, 7071, 7934, 8660, 9239, 9659, 9914])]
def xv_ro (X : Nat × (Nat → Int32)) (j : Nat) : Option (Nat × (Nat → Int32)) := if j = 6 then some X else (xv_rf[j]?).map fun q => (q.2.length, fun k => q.2.getD k 0)
def xv_isn (w : Cond) : Bool := match w with
  | .methodLinkNest .. => true
  | .fieldLinkNest .. => true
  | .arrayOver _ => true
  | _ => false
def xv_nw : List Cond := lw_tbl.filter xv_isn
def xv_g : List Cond := lw_tbl.filter goodWord
def xv_R (X : Nat × (Nat → Int32)) (A : Nat → Prop) (ad : Nat → Nat) (U : State) (H : Heap) : Prop :=
  (∀ j q, xv_ro X j = some q → va_T .int (ad (1000 + j)) q.1 (fun k => .int (q.2 k)) A U H) ∧ (∀ j q, xv_rf[j]? = some q → va_Z "ValveShop" q.1 "[I" (.ref (ad (1000 + j))) A U H) ∧ ∀ w ∈ xv_nw, va_Nw w U
abbrev xv_M : Type := String × ByteArray × Nat × Bool × Option FieldType × Room
abbrev xv_P : Type := Option Value → xv_H → Nat → Prop
def xv_ret (cc : ByteArray) (ret : Option FieldType) (pc : Nat) (v : Option Value) : Prop := match v with
  | none => ret = none ∧ decode cc pc = .ok (.return_, 1)
  | some (.int x) => ∃ ty, ret = some ty ∧ narrow ty (.int x) = .int x ∧ decode cc pc = .ok (.ireturn, 1)
  | some (.long _) => ret = some .long ∧ decode cc pc = .ok (.lreturn, 1)
  | some (.ref _) => (∃ C, ret = some (.object C)) ∧ decode cc pc = .ok (.areturn, 1)
  | some .null => (∃ C, ret = some (.object C)) ∧ decode cc pc = .ok (.areturn, 1)
  | _ => False
section XV
variable (X : Nat × (Nat → Int32)) (M : xv_M) (Post : xv_P)
def xv_C (p : Program) (l : Launch) (e : Env) (s : State) (m : MethodId) (args : Array Value) (below : List Frame) (meth : Method) (c : Code) (D : va_G) (A : Nat → Prop) (ad0 : Nat → Nat) (n0 : Nat) (Qf : State → Prop) : Prop :=
  p.tables.exec = Jvm.exec ∧ c.code = M.2.1 ∧ c.maxLocals = M.2.2.1 ∧ s.vm.findClass M.1 = some m.cls ∧ (∀ w ∈ xv_g, w.before args s = true) ∧ (M.2.2.2.1 = true → meth.name = "<init>") ∧ va_K D xv_cl [] s ∧ (∀ q, s.heap.size ≤ q → A q) ∧ xv_R X A ad0 s s.heap ∧
  (∀ (v : Option Value) (ad : Nat → Nat) (H : Heap) (locs : List Loc) (cells slots : Nat) (ls : Array Slot) (pc : Nat) (h : xv_H) (n : Nat), xv_ret M.2.1 M.2.2.2.2.1 pc v → n0 ≤ n → (∀ i, i < n0 ∨ 1000 ≤ i → ad i = ad0 i) → cells ≤ M.2.2.2.2.2.cells → slots ≤ M.2.2.2.2.2.slots → xv_W D A ad h n s H → (∀ w, v = some w → xv_v n w) → va_S A s.heap H locs → Post v h n →
    W p l e M.2.2.2.2.2 s m args below meth c H locs cells slots Qf (F0 m pc ls (v.toList.map (xv_r ad))))
def xv_Q (s : State) (D : va_G) (A : Nat → Prop) (ad0 : Nat → Nat) (n0 : Nat) (ad : Nat → Nat) (H : Heap) (locs : List Loc) (ls : Array Slot) (lv : List (Nat × Value)) (st : List Value) (h : xv_H) (n : Nat) : Prop :=
  n0 ≤ n ∧ (∀ i, i < n0 ∨ 1000 ≤ i → ad i = ad0 i) ∧ xv_W D A ad h n s H ∧ va_S A s.heap H locs ∧ lv_has ls M.2.2.1 (xv_lr ad lv) ∧ (∀ q ∈ lv, xv_v n q.2) ∧ ∀ v ∈ st, xv_v n v
def xv_V (cells slots pc : Nat) (lv : List (Nat × Value)) (st : List Value) (h : xv_H) (n : Nat) : Prop :=
  ∀ (p : Program) (l : Launch) (e : Env) (s : State) (m : MethodId) (args : Array Value) (below : List Frame) (meth : Method) (c : Code) (D : va_G) (A : Nat → Prop) (ad0 : Nat → Nat) (n0 : Nat) (Qf : State → Prop), xv_C X M Post p l e s m args below meth c D A ad0 n0 Qf →
    ∀ (ad : Nat → Nat) (H : Heap) (locs : List Loc) (ls : Array Slot), xv_Q M s D A ad0 n0 ad H locs ls lv st h n → W p l e M.2.2.2.2.2 s m args below meth c H locs cells slots Qf (F0 m pc ls (st.map (xv_r ad)))
end XV
section XR
variable {X : Nat × (Nat → Int32)} {M : xv_M} {Post : xv_P} {cells slots pc q : Nat} {lv lv' : List (Nat × Value)} {st : List Value} {h : xv_H} {n : Nat}
theorem xv_step {st' : List Value} (k : xv_V X M Post cells slots q lv st' h n) (f : ∀ (p : Program) (l : Launch) (e : Env) (s : State) (m : MethodId) (args : Array Value) (below : List Frame) (meth : Method) (c : Code) (Qf : State → Prop) (H : Heap) (locs : List Loc) (ls : Array Slot) (ad : Nat → Nat), p.tables.exec = Jvm.exec → c.code = M.2.1 → c.maxLocals = M.2.2.1 → s.vm.findClass M.1 = some m.cls → (∀ w ∈ xv_g, w.before args s = true) → ls.size = M.2.2.1 → (∀ i v, xv_get lv i = some v → ls[i]? = some (.val (xv_r ad v))) →
      W p l e M.2.2.2.2.2 s m args below meth c H locs cells slots Qf (F0 m q ls (st'.map (xv_r ad))) → W p l e M.2.2.2.2.2 s m args below meth c H locs cells slots Qf (F0 m pc ls (st.map (xv_r ad))))
    (hv : (∀ x ∈ lv, xv_v n x.2) → (∀ v ∈ st, xv_v n v) → ∀ v ∈ st', xv_v n v) : xv_V X M Post cells slots pc lv st h n :=
  fun p l e s m args below meth c D A ad0 n0 Qf C ad H locs ls Q => f p l e s m args below meth c Qf H locs ls ad C.1 C.2.1 C.2.2.1 C.2.2.2.1 C.2.2.2.2.1 Q.2.2.2.2.1.1 (fun i v g => Q.2.2.2.2.1.2.2 (i, xv_r ad v) (xv_lrm (xv_gm g)))
    (k p l e s m args below meth c D A ad0 n0 Qf C ad H locs ls ⟨Q.1, Q.2.1, Q.2.2.1, Q.2.2.2.1, Q.2.2.2.2.1, Q.2.2.2.2.2.1, hv Q.2.2.2.2.2.1 Q.2.2.2.2.2.2⟩)
theorem xv_2 {c : Prop} {st1 st2 : List Value} {q2 : Nat} (f : ∀ (p : Program) (l : Launch) (e : Env) (s : State) (m : MethodId) (args : Array Value) (below : List Frame) (meth : Method) (c0 : Code) (Qf : State → Prop) (H : Heap) (locs : List Loc) (ls : Array Slot) (ad : Nat → Nat), p.tables.exec = Jvm.exec → c0.code = M.2.1 →
      (c → W p l e M.2.2.2.2.2 s m args below meth c0 H locs cells slots Qf (F0 m q ls (st1.map (xv_r ad)))) → (¬ c → W p l e M.2.2.2.2.2 s m args below meth c0 H locs cells slots Qf (F0 m q2 ls (st1.map (xv_r ad)))) → W p l e M.2.2.2.2.2 s m args below meth c0 H locs cells slots Qf (F0 m pc ls (st2.map (xv_r ad))))
    (hv : ∀ v ∈ st1, v ∈ st2) (k1 : c → xv_V X M Post cells slots q lv st1 h n) (k2 : ¬ c → xv_V X M Post cells slots q2 lv st1 h n) : xv_V X M Post cells slots pc lv st2 h n :=
  fun p l e s m args below meth c D A ad0 n0 Qf C ad H locs ls Q => f p l e s m args below meth c Qf H locs ls ad C.1 C.2.1
    (fun z => k1 z p l e s m args below meth c D A ad0 n0 Qf C ad H locs ls ⟨Q.1, Q.2.1, Q.2.2.1, Q.2.2.2.1, Q.2.2.2.2.1, Q.2.2.2.2.2.1, fun v hm => Q.2.2.2.2.2.2 v (hv v hm)⟩)
    (fun z => k2 z p l e s m args below meth c D A ad0 n0 Qf C ad H locs ls ⟨Q.1, Q.2.1, Q.2.2.1, Q.2.2.2.1, Q.2.2.2.2.1, Q.2.2.2.2.2.1, fun v hm => Q.2.2.2.2.2.2 v (hv v hm)⟩)
/-- fewer locals, in any order -/
theorem xv_weak (hl : ∀ x ∈ lv', xv_get lv x.1 = some x.2) (k : xv_V X M Post cells slots pc lv' st h n) : xv_V X M Post cells slots pc lv st h n :=
  fun p l e s m args below meth c D A ad0 n0 Qf C ad H locs ls Q => k p l e s m args below meth c D A ad0 n0 Qf C ad H locs ls ⟨Q.1, Q.2.1, Q.2.2.1, Q.2.2.2.1, ⟨Q.2.2.2.2.1.1, Q.2.2.2.2.1.2.1, fun x hx => by
    obtain ⟨y, hy, rfl⟩ := List.mem_map.mp hx
    exact Q.2.2.2.2.1.2.2 _ (xv_lrm (xv_gm (hl y hy)))⟩, fun x hx => Q.2.2.2.2.2.1 (x.1, x.2) (xv_gm (hl x hx)), Q.2.2.2.2.2.2⟩
theorem xv_sumc (ad : Nat → Nat) (l : List Value) : ((l.map (xv_r ad)).map fun v => v.category).sum = (l.map fun v => v.category).sum := by
  rw [List.map_map]
  exact congrArg List.sum (List.map_congr_left fun v _ => xv_rcat ad v)
theorem xv_vint {n : Nat} {x : Int32} : xv_v n (.int x) := trivial
theorem xv_vlong {n : Nat} {x : Int64} : xv_v n (.long x) := trivial
theorem xv_cons {n : Nat} {v : Value} {l : List Value} (h : xv_v n v) (hl : ∀ w ∈ l, xv_v n w) : ∀ w ∈ v :: l, xv_v n w := fun w hw => (List.mem_cons.mp hw).elim (fun e => e ▸ h) (hl w)
theorem xv_tl {n : Nat} {v : Value} {l : List Value} (hl : ∀ w ∈ v :: l, xv_v n w) : ∀ w ∈ l, xv_v n w := fun w hw => hl w (List.mem_cons_of_mem _ hw)
-- constants
theorem xi_iconst {i : Int} {x : Int32} (hd : decode M.2.1 pc = .ok (.iconst i, 1)) (hx : Int32.ofInt i = x) (hq : pc + 1 = q) (k : xv_V X M Post cells slots q lv (.int x :: st) h n) : xv_V X M Post cells slots pc lv st h n := by
  subst hq
  exact xv_step k (fun _ _ _ _ _ _ _ _ _ _ _ _ _ _ e b _ _ _ _ _ w => lv_iconst e b hd hx w) (fun _ z => xv_cons trivial z)
theorem xi_bipush {i : Int} {x : Int32} (hd : decode M.2.1 pc = .ok (.bipush i, 2)) (hx : (Int8.ofInt i).toInt32 = x) (hq : pc + 2 = q) (k : xv_V X M Post cells slots q lv (.int x :: st) h n) : xv_V X M Post cells slots pc lv st h n := by
  subst hq
  exact xv_step k (fun _ _ _ _ _ _ _ _ _ _ _ _ _ _ e b _ _ _ _ _ w => lv_bipush e b hd hx w) (fun _ z => xv_cons trivial z)
theorem xi_sipush {i : Int} {x : Int32} (hd : decode M.2.1 pc = .ok (.sipush i, 3)) (hx : (Int16.ofInt i).toInt32 = x) (hq : pc + 3 = q) (k : xv_V X M Post cells slots q lv (.int x :: st) h n) : xv_V X M Post cells slots pc lv st h n := by
  subst hq
  exact xv_step k (fun _ _ _ _ _ _ _ _ _ _ _ _ _ _ e b _ _ _ _ _ w => lv_sipush e b hd hx w) (fun _ z => xv_cons trivial z)
theorem xi_lconst {i : Fin 2} {x : Int64} (hd : decode M.2.1 pc = .ok (.lconst i, 1)) (hx : Int64.ofNat i = x) (hq : pc + 1 = q) (k : xv_V X M Post cells slots q lv (.long x :: st) h n) : xv_V X M Post cells slots pc lv st h n := by
  subst hq
  exact xv_step k (fun _ _ _ _ _ _ _ _ _ _ _ _ _ _ e b _ _ _ _ _ w => lv_lconst e b hd hx w) (fun _ z => xv_cons trivial z)
theorem xi_null (hd : decode M.2.1 pc = .ok (.aconst_null, 1)) (hq : pc + 1 = q) (k : xv_V X M Post cells slots q lv (.null :: st) h n) : xv_V X M Post cells slots pc lv st h n := by
  subst hq
  exact xv_step k (fun _ _ _ _ _ _ _ _ _ _ _ _ _ _ e b _ _ _ _ _ w => lv_null e b hd w) (fun _ z => xv_cons trivial z)
theorem xi_ldc {i : Nat} {x : Int32} (hd : decode M.2.1 pc = .ok (.ldc i, 2)) (hw : Cond.constant M.1 i x ∈ xv_g) (hq : pc + 2 = q) (k : xv_V X M Post cells slots q lv (.int x :: st) h n) : xv_V X M Post cells slots pc lv st h n := by
  subst hq
  exact xv_step k (fun _ _ _ _ _ _ _ _ _ _ _ _ _ _ e b _ o t _ _ w => lv_ldc e b o (t _ hw) hd w) (fun _ z => xv_cons trivial z)
theorem xi_ldcw {i : Nat} {x : Int32} (hd : decode M.2.1 pc = .ok (.ldc_w i, 3)) (hw : Cond.constant M.1 i x ∈ xv_g) (hq : pc + 3 = q) (k : xv_V X M Post cells slots q lv (.int x :: st) h n) : xv_V X M Post cells slots pc lv st h n := by
  subst hq
  exact xv_step k (fun _ _ _ _ _ _ _ _ _ _ _ _ _ _ e b _ o t _ _ w => lv_ldcw e b o (t _ hw) hd w) (fun _ z => xv_cons trivial z)
theorem xi_ldc2 {i : Nat} {x : Int64} (hd : decode M.2.1 pc = .ok (.ldc2_w i, 3)) (hw : Cond.constantLong M.1 i x ∈ xv_g) (hq : pc + 3 = q) (k : xv_V X M Post cells slots q lv (.long x :: st) h n) : xv_V X M Post cells slots pc lv st h n := by
  subst hq
  exact xv_step k (fun _ _ _ _ _ _ _ _ _ _ _ _ _ _ e b _ o t _ _ w => lv_ldc2 e b o (t _ hw) hd w) (fun _ z => xv_cons trivial z)
-- locals
theorem xi_iload_n {i : Fin 4} {x : Int32} (hd : decode M.2.1 pc = .ok (.iload_n i, 1)) (hl : xv_get lv i = some (.int x)) (hq : pc + 1 = q) (k : xv_V X M Post cells slots q lv (.int x :: st) h n) : xv_V X M Post cells slots pc lv st h n := by
  subst hq
  exact xv_step k (fun _ _ _ _ _ _ _ _ _ _ _ _ _ _ e b _ _ _ _ g w => lv_iload_n e b hd rfl (g _ _ hl) w) (fun _ z => xv_cons trivial z)
theorem xi_iload {i : Nat} {x : Int32} (hd : decode M.2.1 pc = .ok (.iload i, 2)) (hl : xv_get lv i = some (.int x)) (hq : pc + 2 = q) (k : xv_V X M Post cells slots q lv (.int x :: st) h n) : xv_V X M Post cells slots pc lv st h n := by
  subst hq
  exact xv_step k (fun _ _ _ _ _ _ _ _ _ _ _ _ _ _ e b _ _ _ _ g w => lv_iload e b hd (g _ _ hl) w) (fun _ z => xv_cons trivial z)
theorem xi_lload_n {i : Fin 4} {x : Int64} (hd : decode M.2.1 pc = .ok (.lload_n i, 1)) (hl : xv_get lv i = some (.long x)) (hq : pc + 1 = q) (k : xv_V X M Post cells slots q lv (.long x :: st) h n) : xv_V X M Post cells slots pc lv st h n := by
  subst hq
  exact xv_step k (fun _ _ _ _ _ _ _ _ _ _ _ _ _ _ e b _ _ _ _ g w => lv_lload_n e b hd rfl (g _ _ hl) w) (fun _ z => xv_cons trivial z)
theorem xi_lload {i : Nat} {x : Int64} (hd : decode M.2.1 pc = .ok (.lload i, 2)) (hl : xv_get lv i = some (.long x)) (hq : pc + 2 = q) (k : xv_V X M Post cells slots q lv (.long x :: st) h n) : xv_V X M Post cells slots pc lv st h n := by
  subst hq
  exact xv_step k (fun _ _ _ _ _ _ _ _ _ _ _ _ _ _ e b _ _ _ _ g w => lv_lload e b hd (g _ _ hl) w) (fun _ z => xv_cons trivial z)
theorem xi_aload_n {i : Fin 4} {a : Nat} (hd : decode M.2.1 pc = .ok (.aload_n i, 1)) (hl : xv_get lv i = some (.ref a)) (hq : pc + 1 = q) (k : xv_V X M Post cells slots q lv (.ref a :: st) h n) : xv_V X M Post cells slots pc lv st h n := by
  subst hq
  exact xv_step k (fun _ _ _ _ _ _ _ _ _ _ _ _ _ _ e b _ _ _ _ g w => lv_aload_n e b hd rfl (g _ _ hl) w) (fun y z => xv_cons (y _ (xv_gm hl)) z)
theorem xi_aload {i : Nat} {a : Nat} (hd : decode M.2.1 pc = .ok (.aload i, 2)) (hl : xv_get lv i = some (.ref a)) (hq : pc + 2 = q) (k : xv_V X M Post cells slots q lv (.ref a :: st) h n) : xv_V X M Post cells slots pc lv st h n := by
  subst hq
  exact xv_step k (fun _ _ _ _ _ _ _ _ _ _ _ _ _ _ e b _ _ _ _ g w => lv_aload e b hd (g _ _ hl) w) (fun y z => xv_cons (y _ (xv_gm hl)) z)
theorem xi_aload_nN {i : Fin 4} (hd : decode M.2.1 pc = .ok (.aload_n i, 1)) (hl : xv_get lv i = some .null) (hq : pc + 1 = q) (k : xv_V X M Post cells slots q lv (.null :: st) h n) : xv_V X M Post cells slots pc lv st h n := by
  subst hq
  exact xv_step k (fun _ _ _ _ _ _ _ _ _ _ _ _ _ _ e b _ _ _ _ g w => lv_aload_nN e b hd rfl (g _ _ hl) w) (fun _ z => xv_cons trivial z)
theorem xi_aloadN {i : Nat} (hd : decode M.2.1 pc = .ok (.aload i, 2)) (hl : xv_get lv i = some .null) (hq : pc + 2 = q) (k : xv_V X M Post cells slots q lv (.null :: st) h n) : xv_V X M Post cells slots pc lv st h n := by
  subst hq
  exact xv_step k (fun _ _ _ _ _ _ _ _ _ _ _ _ _ _ e b _ _ _ _ g w => lv_aloadN e b hd (g _ _ hl) w) (fun _ z => xv_cons trivial z)
theorem xv_vset {n i : Nat} {v : Value} {l : List (Nat × Value)} (hv : xv_v n v) (hl : ∀ q ∈ l, xv_v n q.2) : ∀ q ∈ xv_set l i v, xv_v n q.2 := fun q hq => (List.mem_cons.mp hq).elim (fun e => by rw [e]; exact hv) (fun h => hl q ((List.mem_filter.mp h).1))
theorem xv_vsetL {n i : Nat} {v : Value} {l : List (Nat × Value)} (hv : xv_v n v) (hl : ∀ q ∈ l, xv_v n q.2) : ∀ q ∈ xv_setL l i v, xv_v n q.2 := fun q hq => (List.mem_cons.mp hq).elim (fun e => by rw [e]; exact hv) (fun h => hl q ((List.mem_filter.mp h).1))
/-- a store into a local -/
theorem xv_stl {v : Value} {lv1 : List (Nat × Value)} (f : ∀ (p : Program) (l : Launch) (e : Env) (s : State) (m : MethodId) (args : Array Value) (below : List Frame) (meth : Method) (c : Code) (Qf : State → Prop) (H : Heap) (locs : List Loc) (ls : Array Slot) (ad : Nat → Nat), p.tables.exec = Jvm.exec → c.code = M.2.1 → lv_has ls M.2.2.1 (xv_lr ad lv) →
      (∀ ls' : Array Slot, lv_has ls' M.2.2.1 (xv_lr ad lv1) → W p l e M.2.2.2.2.2 s m args below meth c H locs cells slots Qf (F0 m q ls' (st.map (xv_r ad)))) → W p l e M.2.2.2.2.2 s m args below meth c H locs cells slots Qf (F0 m pc ls ((v :: st).map (xv_r ad))))
    (hv : ∀ n, xv_v n v → (∀ q ∈ lv, xv_v n q.2) → ∀ q ∈ lv1, xv_v n q.2) (k : xv_V X M Post cells slots q lv1 st h n) : xv_V X M Post cells slots pc lv (v :: st) h n :=
  fun p l e s m args below meth c D A ad0 n0 Qf C ad H locs ls Q => f p l e s m args below meth c Qf H locs ls ad C.1 C.2.1 Q.2.2.2.2.1 fun ls' hl' =>
    k p l e s m args below meth c D A ad0 n0 Qf C ad H locs ls' ⟨Q.1, Q.2.1, Q.2.2.1, Q.2.2.2.1, hl', hv n (Q.2.2.2.2.2.2 v List.mem_cons_self) Q.2.2.2.2.2.1, xv_tl Q.2.2.2.2.2.2⟩
theorem xi_istore_n {i : Fin 4} {x : Int32} (hd : decode M.2.1 pc = .ok (.istore_n i, 1)) (hi : (i : Nat) < M.2.2.1) (hq : pc + 1 = q) (k : xv_V X M Post cells slots q (xv_set lv i (.int x)) st h n) : xv_V X M Post cells slots pc lv (.int x :: st) h n := by
  subst hq
  exact xv_stl (fun _ _ _ _ _ _ _ _ _ _ _ _ _ ad e b g w => lv_istore_n e b hd rfl g hi (xv_lrset ad lv i (.int x)) w) (fun _ a b => xv_vset a b) k
theorem xi_istore {i : Nat} {x : Int32} (hd : decode M.2.1 pc = .ok (.istore i, 2)) (hi : i < M.2.2.1) (hq : pc + 2 = q) (k : xv_V X M Post cells slots q (xv_set lv i (.int x)) st h n) : xv_V X M Post cells slots pc lv (.int x :: st) h n := by
  subst hq
  exact xv_stl (fun _ _ _ _ _ _ _ _ _ _ _ _ _ ad e b g w => lv_istore e b hd g hi (xv_lrset ad lv i (.int x)) w) (fun _ a b => xv_vset a b) k
theorem xi_astore_n {i : Fin 4} {x : Nat} (hd : decode M.2.1 pc = .ok (.astore_n i, 1)) (hi : (i : Nat) < M.2.2.1) (hq : pc + 1 = q) (k : xv_V X M Post cells slots q (xv_set lv i (.ref x)) st h n) : xv_V X M Post cells slots pc lv (.ref x :: st) h n := by
  subst hq
  exact xv_stl (fun _ _ _ _ _ _ _ _ _ _ _ _ _ ad e b g w => lv_astore_n e b hd rfl g hi (xv_lrset ad lv i (.ref x)) w) (fun _ a b => xv_vset a b) k
theorem xi_astore {i : Nat} {x : Nat} (hd : decode M.2.1 pc = .ok (.astore i, 2)) (hi : i < M.2.2.1) (hq : pc + 2 = q) (k : xv_V X M Post cells slots q (xv_set lv i (.ref x)) st h n) : xv_V X M Post cells slots pc lv (.ref x :: st) h n := by
  subst hq
  exact xv_stl (fun _ _ _ _ _ _ _ _ _ _ _ _ _ ad e b g w => lv_astore e b hd g hi (xv_lrset ad lv i (.ref x)) w) (fun _ a b => xv_vset a b) k
theorem xi_astore_nN {i : Fin 4} (hd : decode M.2.1 pc = .ok (.astore_n i, 1)) (hi : (i : Nat) < M.2.2.1) (hq : pc + 1 = q) (k : xv_V X M Post cells slots q (xv_set lv i .null) st h n) : xv_V X M Post cells slots pc lv (.null :: st) h n := by
  subst hq
  exact xv_stl (fun _ _ _ _ _ _ _ _ _ _ _ _ _ ad e b g w => lv_astore_nN e b hd rfl g hi (xv_lrset ad lv i .null) w) (fun _ a b => xv_vset a b) k
theorem xi_astoreN {i : Nat} (hd : decode M.2.1 pc = .ok (.astore i, 2)) (hi : i < M.2.2.1) (hq : pc + 2 = q) (k : xv_V X M Post cells slots q (xv_set lv i .null) st h n) : xv_V X M Post cells slots pc lv (.null :: st) h n := by
  subst hq
  exact xv_stl (fun _ _ _ _ _ _ _ _ _ _ _ _ _ ad e b g w => lv_astoreN e b hd g hi (xv_lrset ad lv i .null) w) (fun _ a b => xv_vset a b) k
theorem xi_lstore_n {i : Fin 4} {x : Int64} (hd : decode M.2.1 pc = .ok (.lstore_n i, 1)) (hi : (i : Nat) + 1 < M.2.2.1) (hq : pc + 1 = q) (k : xv_V X M Post cells slots q (xv_setL lv i (.long x)) st h n) : xv_V X M Post cells slots pc lv (.long x :: st) h n := by
  subst hq
  exact xv_stl (fun _ _ _ _ _ _ _ _ _ _ _ _ _ ad e b g w => lv_lstore_n e b hd rfl g hi (xv_lrsetL ad lv i (.long x)) w) (fun _ a b => xv_vsetL a b) k
theorem xi_lstore {i : Nat} {x : Int64} (hd : decode M.2.1 pc = .ok (.lstore i, 2)) (hi : i + 1 < M.2.2.1) (hq : pc + 2 = q) (k : xv_V X M Post cells slots q (xv_setL lv i (.long x)) st h n) : xv_V X M Post cells slots pc lv (.long x :: st) h n := by
  subst hq
  exact xv_stl (fun _ _ _ _ _ _ _ _ _ _ _ _ _ ad e b g w => lv_lstore e b hd g hi (xv_lrsetL ad lv i (.long x)) w) (fun _ a b => xv_vsetL a b) k
theorem xi_iinc {i : Nat} {d : Int} {x y : Int32} (hd : decode M.2.1 pc = .ok (.iinc i d, 3)) (hl : xv_get lv i = some (.int x)) (hy : x + Int32.ofInt d = y) (hi : i < M.2.2.1) (hq : pc + 3 = q) (k : xv_V X M Post cells slots q (xv_set lv i (.int y)) st h n) : xv_V X M Post cells slots pc lv st h n := by
  subst hq
  intro p l e s m args below meth c D A ad0 n0 Qf C ad H locs ls Q
  obtain ⟨kk, hk⟩ := List.getElem?_of_mem (xv_lrm (ad := ad) (xv_gm hl))
  exact lv_iinc C.1 C.2.1 hd Q.2.2.2.2.1 hk hy hi (xv_lrset ad lv i (.int y)) fun ls' hl' => k p l e s m args below meth c D A ad0 n0 Qf C ad H locs ls' ⟨Q.1, Q.2.1, Q.2.2.1, Q.2.2.2.1, hl', xv_vset trivial Q.2.2.2.2.2.1, Q.2.2.2.2.2.2⟩
theorem xi_iadd {x y : Int32} (hd : decode M.2.1 pc = .ok (.iadd, 1)) (hq : pc + 1 = q) (k : xv_V X M Post cells slots q lv (.int (x + y) :: st) h n) : xv_V X M Post cells slots pc lv (.int y :: .int x :: st) h n := by
  subst hq
  exact xv_step k (fun _ _ _ _ _ _ _ _ _ _ _ _ _ _ e b _ _ _ _ _ w => lv_iadd e b hd w) (fun _ z => xv_cons trivial (xv_tl (xv_tl z)))
theorem xi_isub {x y : Int32} (hd : decode M.2.1 pc = .ok (.isub, 1)) (hq : pc + 1 = q) (k : xv_V X M Post cells slots q lv (.int (x - y) :: st) h n) : xv_V X M Post cells slots pc lv (.int y :: .int x :: st) h n := by
  subst hq
  exact xv_step k (fun _ _ _ _ _ _ _ _ _ _ _ _ _ _ e b _ _ _ _ _ w => lv_isub e b hd w) (fun _ z => xv_cons trivial (xv_tl (xv_tl z)))
theorem xi_imul {x y : Int32} (hd : decode M.2.1 pc = .ok (.imul, 1)) (hq : pc + 1 = q) (k : xv_V X M Post cells slots q lv (.int (x * y) :: st) h n) : xv_V X M Post cells slots pc lv (.int y :: .int x :: st) h n := by
  subst hq
  exact xv_step k (fun _ _ _ _ _ _ _ _ _ _ _ _ _ _ e b _ _ _ _ _ w => lv_imul e b hd w) (fun _ z => xv_cons trivial (xv_tl (xv_tl z)))
theorem xi_iand {x y : Int32} (hd : decode M.2.1 pc = .ok (.iand, 1)) (hq : pc + 1 = q) (k : xv_V X M Post cells slots q lv (.int (x &&& y) :: st) h n) : xv_V X M Post cells slots pc lv (.int y :: .int x :: st) h n := by
  subst hq
  exact xv_step k (fun _ _ _ _ _ _ _ _ _ _ _ _ _ _ e b _ _ _ _ _ w => lv_iand e b hd w) (fun _ z => xv_cons trivial (xv_tl (xv_tl z)))
theorem xi_idiv {x y : Int32} (hd : decode M.2.1 pc = .ok (.idiv, 1)) (hne : ¬ y = 0) (hq : pc + 1 = q) (k : xv_V X M Post cells slots q lv (.int (x / y) :: st) h n) : xv_V X M Post cells slots pc lv (.int y :: .int x :: st) h n := by
  subst hq
  exact xv_step k (fun _ _ _ _ _ _ _ _ _ _ _ _ _ _ e b _ _ _ _ _ w => lv_idiv e b hd hne w) (fun _ z => xv_cons trivial (xv_tl (xv_tl z)))
theorem xi_irem {x y : Int32} (hd : decode M.2.1 pc = .ok (.irem, 1)) (hne : ¬ y = 0) (hq : pc + 1 = q) (k : xv_V X M Post cells slots q lv (.int (x - x / y * y) :: st) h n) : xv_V X M Post cells slots pc lv (.int y :: .int x :: st) h n := by
  subst hq
  exact xv_step k (fun _ _ _ _ _ _ _ _ _ _ _ _ _ _ e b _ _ _ _ _ w => lv_irem e b hd hne w) (fun _ z => xv_cons trivial (xv_tl (xv_tl z)))
theorem xi_ladd {x y : Int64} (hd : decode M.2.1 pc = .ok (.ladd, 1)) (hq : pc + 1 = q) (k : xv_V X M Post cells slots q lv (.long (x + y) :: st) h n) : xv_V X M Post cells slots pc lv (.long y :: .long x :: st) h n := by
  subst hq
  exact xv_step k (fun _ _ _ _ _ _ _ _ _ _ _ _ _ _ e b _ _ _ _ _ w => lv_ladd e b hd w) (fun _ z => xv_cons trivial (xv_tl (xv_tl z)))
theorem xi_lsub {x y : Int64} (hd : decode M.2.1 pc = .ok (.lsub, 1)) (hq : pc + 1 = q) (k : xv_V X M Post cells slots q lv (.long (x - y) :: st) h n) : xv_V X M Post cells slots pc lv (.long y :: .long x :: st) h n := by
  subst hq
  exact xv_step k (fun _ _ _ _ _ _ _ _ _ _ _ _ _ _ e b _ _ _ _ _ w => lv_lsub e b hd w) (fun _ z => xv_cons trivial (xv_tl (xv_tl z)))
theorem xi_lmul {x y : Int64} (hd : decode M.2.1 pc = .ok (.lmul, 1)) (hq : pc + 1 = q) (k : xv_V X M Post cells slots q lv (.long (x * y) :: st) h n) : xv_V X M Post cells slots pc lv (.long y :: .long x :: st) h n := by
  subst hq
  exact xv_step k (fun _ _ _ _ _ _ _ _ _ _ _ _ _ _ e b _ _ _ _ _ w => lv_lmul e b hd w) (fun _ z => xv_cons trivial (xv_tl (xv_tl z)))
theorem xi_ldiv {x y : Int64} (hd : decode M.2.1 pc = .ok (.ldiv, 1)) (hne : ¬ y = 0) (hq : pc + 1 = q) (k : xv_V X M Post cells slots q lv (.long (x / y) :: st) h n) : xv_V X M Post cells slots pc lv (.long y :: .long x :: st) h n := by
  subst hq
  exact xv_step k (fun _ _ _ _ _ _ _ _ _ _ _ _ _ _ e b _ _ _ _ _ w => lv_ldiv e b hd hne w) (fun _ z => xv_cons trivial (xv_tl (xv_tl z)))
theorem xi_ineg {x : Int32} (hd : decode M.2.1 pc = .ok (.ineg, 1)) (hq : pc + 1 = q) (k : xv_V X M Post cells slots q lv (.int (-x) :: st) h n) : xv_V X M Post cells slots pc lv (.int x :: st) h n := by
  subst hq
  exact xv_step k (fun _ _ _ _ _ _ _ _ _ _ _ _ _ _ e b _ _ _ _ _ w => lv_ineg e b hd w) (fun _ z => xv_cons trivial (xv_tl z))
theorem xi_lcmp {x y : Int64} (hd : decode M.2.1 pc = .ok (.lcmp, 1)) (hq : pc + 1 = q) (k : xv_V X M Post cells slots q lv (.int (lg_cmp x y) :: st) h n) : xv_V X M Post cells slots pc lv (.long y :: .long x :: st) h n := by
  subst hq
  exact xv_step k (fun _ _ _ _ _ _ _ _ _ _ _ _ _ _ e b _ _ _ _ _ w => W.lcmp e b hd w) (fun _ z => xv_cons trivial (xv_tl (xv_tl z)))
theorem xi_i2l {x : Int32} (hd : decode M.2.1 pc = .ok (.i2l, 1)) (hq : pc + 1 = q) (k : xv_V X M Post cells slots q lv (.long (x.toInt64) :: st) h n) : xv_V X M Post cells slots pc lv (.int x :: st) h n := by
  subst hq
  exact xv_step k (fun _ _ _ _ _ _ _ _ _ _ _ _ _ _ e b _ _ _ _ _ w => lv_i2l e b hd rfl w) (fun _ z => xv_cons trivial (xv_tl z))
theorem xi_l2i {x : Int64} (hd : decode M.2.1 pc = .ok (.l2i, 1)) (hq : pc + 1 = q) (k : xv_V X M Post cells slots q lv (.int (x.toInt32) :: st) h n) : xv_V X M Post cells slots pc lv (.long x :: st) h n := by
  subst hq
  exact xv_step k (fun _ _ _ _ _ _ _ _ _ _ _ _ _ _ e b _ _ _ _ _ w => lv_l2i e b hd rfl w) (fun _ z => xv_cons trivial (xv_tl z))
theorem xi_i2b {x : Int32} (hd : decode M.2.1 pc = .ok (.i2b, 1)) (hq : pc + 1 = q) (k : xv_V X M Post cells slots q lv (.int (x.toInt8.toInt32) :: st) h n) : xv_V X M Post cells slots pc lv (.int x :: st) h n := by
  subst hq
  exact xv_step k (fun _ _ _ _ _ _ _ _ _ _ _ _ _ _ e b _ _ _ _ _ w => lv_i2b e b hd rfl w) (fun _ z => xv_cons trivial (xv_tl z))
theorem xi_i2s {x : Int32} (hd : decode M.2.1 pc = .ok (.i2s, 1)) (hq : pc + 1 = q) (k : xv_V X M Post cells slots q lv (.int (x.toInt16.toInt32) :: st) h n) : xv_V X M Post cells slots pc lv (.int x :: st) h n := by
  subst hq
  exact xv_step k (fun _ _ _ _ _ _ _ _ _ _ _ _ _ _ e b _ _ _ _ _ w => lv_i2s e b hd rfl w) (fun _ z => xv_cons trivial (xv_tl z))
theorem xi_dup {v : Value} (hd : decode M.2.1 pc = .ok (.dup, 1)) (hv : v.category = 1) (hq : pc + 1 = q) (k : xv_V X M Post cells slots q lv (v :: v :: st) h n) : xv_V X M Post cells slots pc lv (v :: st) h n := by
  subst hq
  exact xv_step k (fun _ _ _ _ _ _ _ _ _ _ _ _ _ ad e b _ _ _ _ _ w => lv_dup e b hd (by rw [xv_rcat]; exact hv) w) (fun _ z => xv_cons (z v List.mem_cons_self) z)
theorem xi_if_eq {x : Int32} {off : Int} {q2 : Nat} (hd : decode M.2.1 pc = .ok (.ifCond .eq off, 3)) (ht : (pc : Int) + off = (q2 : Int)) (hq : pc + 3 = q) (k1 : x = 0 → xv_V X M Post cells slots q2 lv st h n) (k2 : ¬ (x = 0) → xv_V X M Post cells slots q lv st h n) : xv_V X M Post cells slots pc lv (.int x :: st) h n := by
  subst hq
  exact xv_2 (fun _ _ _ _ _ _ _ _ _ _ _ _ _ _ e b w1 w2 => lv_if_eq e b hd ht w1 w2) (fun v hm => List.mem_cons_of_mem _ hm) k1 k2
theorem xi_icmp_eq {x y : Int32} {off : Int} {q2 : Nat} (hd : decode M.2.1 pc = .ok (.if_icmp .eq off, 3)) (ht : (pc : Int) + off = (q2 : Int)) (hq : pc + 3 = q) (k1 : x = y → xv_V X M Post cells slots q2 lv st h n) (k2 : ¬ (x = y) → xv_V X M Post cells slots q lv st h n) : xv_V X M Post cells slots pc lv (.int y :: .int x :: st) h n := by
  subst hq
  exact xv_2 (fun _ _ _ _ _ _ _ _ _ _ _ _ _ _ e b w1 w2 => lv_icmp_eq e b hd ht w1 w2) (fun v hm => List.mem_cons_of_mem _ (List.mem_cons_of_mem _ hm)) k1 k2
theorem xi_if_ne {x : Int32} {off : Int} {q2 : Nat} (hd : decode M.2.1 pc = .ok (.ifCond .ne off, 3)) (ht : (pc : Int) + off = (q2 : Int)) (hq : pc + 3 = q) (k1 : ¬ x = 0 → xv_V X M Post cells slots q2 lv st h n) (k2 : x = 0 → xv_V X M Post cells slots q lv st h n) : xv_V X M Post cells slots pc lv (.int x :: st) h n := by
  subst hq
  exact xv_2 (fun _ _ _ _ _ _ _ _ _ _ _ _ _ _ e b w1 w2 => lv_if_ne e b hd ht w1 (fun z => w2 fun y => y z)) (fun v hm => List.mem_cons_of_mem _ hm) k1 (fun z => k2 (Decidable.of_not_not z))
theorem xi_icmp_ne {x y : Int32} {off : Int} {q2 : Nat} (hd : decode M.2.1 pc = .ok (.if_icmp .ne off, 3)) (ht : (pc : Int) + off = (q2 : Int)) (hq : pc + 3 = q) (k1 : ¬ x = y → xv_V X M Post cells slots q2 lv st h n) (k2 : x = y → xv_V X M Post cells slots q lv st h n) : xv_V X M Post cells slots pc lv (.int y :: .int x :: st) h n := by
  subst hq
  exact xv_2 (fun _ _ _ _ _ _ _ _ _ _ _ _ _ _ e b w1 w2 => lv_icmp_ne e b hd ht w1 (fun z => w2 fun y => y z)) (fun v hm => List.mem_cons_of_mem _ (List.mem_cons_of_mem _ hm)) k1 (fun z => k2 (Decidable.of_not_not z))
theorem xi_if_lt {x : Int32} {off : Int} {q2 : Nat} (hd : decode M.2.1 pc = .ok (.ifCond .lt off, 3)) (ht : (pc : Int) + off = (q2 : Int)) (hq : pc + 3 = q) (k1 : x < 0 → xv_V X M Post cells slots q2 lv st h n) (k2 : ¬ (x < 0) → xv_V X M Post cells slots q lv st h n) : xv_V X M Post cells slots pc lv (.int x :: st) h n := by
  subst hq
  exact xv_2 (fun _ _ _ _ _ _ _ _ _ _ _ _ _ _ e b w1 w2 => lv_if_lt e b hd ht w1 w2) (fun v hm => List.mem_cons_of_mem _ hm) k1 k2
theorem xi_icmp_lt {x y : Int32} {off : Int} {q2 : Nat} (hd : decode M.2.1 pc = .ok (.if_icmp .lt off, 3)) (ht : (pc : Int) + off = (q2 : Int)) (hq : pc + 3 = q) (k1 : x < y → xv_V X M Post cells slots q2 lv st h n) (k2 : ¬ (x < y) → xv_V X M Post cells slots q lv st h n) : xv_V X M Post cells slots pc lv (.int y :: .int x :: st) h n := by
  subst hq
  exact xv_2 (fun _ _ _ _ _ _ _ _ _ _ _ _ _ _ e b w1 w2 => lv_icmp_lt e b hd ht w1 w2) (fun v hm => List.mem_cons_of_mem _ (List.mem_cons_of_mem _ hm)) k1 k2
theorem xi_if_ge {x : Int32} {off : Int} {q2 : Nat} (hd : decode M.2.1 pc = .ok (.ifCond .ge off, 3)) (ht : (pc : Int) + off = (q2 : Int)) (hq : pc + 3 = q) (k1 : 0 ≤ x → xv_V X M Post cells slots q2 lv st h n) (k2 : ¬ (0 ≤ x) → xv_V X M Post cells slots q lv st h n) : xv_V X M Post cells slots pc lv (.int x :: st) h n := by
  subst hq
  exact xv_2 (fun _ _ _ _ _ _ _ _ _ _ _ _ _ _ e b w1 w2 => lv_if_ge e b hd ht w1 w2) (fun v hm => List.mem_cons_of_mem _ hm) k1 k2
theorem xi_icmp_ge {x y : Int32} {off : Int} {q2 : Nat} (hd : decode M.2.1 pc = .ok (.if_icmp .ge off, 3)) (ht : (pc : Int) + off = (q2 : Int)) (hq : pc + 3 = q) (k1 : y ≤ x → xv_V X M Post cells slots q2 lv st h n) (k2 : ¬ (y ≤ x) → xv_V X M Post cells slots q lv st h n) : xv_V X M Post cells slots pc lv (.int y :: .int x :: st) h n := by
  subst hq
  exact xv_2 (fun _ _ _ _ _ _ _ _ _ _ _ _ _ _ e b w1 w2 => lv_icmp_ge e b hd ht w1 w2) (fun v hm => List.mem_cons_of_mem _ (List.mem_cons_of_mem _ hm)) k1 k2
theorem xi_if_gt {x : Int32} {off : Int} {q2 : Nat} (hd : decode M.2.1 pc = .ok (.ifCond .gt off, 3)) (ht : (pc : Int) + off = (q2 : Int)) (hq : pc + 3 = q) (k1 : 0 < x → xv_V X M Post cells slots q2 lv st h n) (k2 : ¬ (0 < x) → xv_V X M Post cells slots q lv st h n) : xv_V X M Post cells slots pc lv (.int x :: st) h n := by
  subst hq
  exact xv_2 (fun _ _ _ _ _ _ _ _ _ _ _ _ _ _ e b w1 w2 => lv_if_gt e b hd ht w1 w2) (fun v hm => List.mem_cons_of_mem _ hm) k1 k2
theorem xi_icmp_gt {x y : Int32} {off : Int} {q2 : Nat} (hd : decode M.2.1 pc = .ok (.if_icmp .gt off, 3)) (ht : (pc : Int) + off = (q2 : Int)) (hq : pc + 3 = q) (k1 : y < x → xv_V X M Post cells slots q2 lv st h n) (k2 : ¬ (y < x) → xv_V X M Post cells slots q lv st h n) : xv_V X M Post cells slots pc lv (.int y :: .int x :: st) h n := by
  subst hq
  exact xv_2 (fun _ _ _ _ _ _ _ _ _ _ _ _ _ _ e b w1 w2 => lv_icmp_gt e b hd ht w1 w2) (fun v hm => List.mem_cons_of_mem _ (List.mem_cons_of_mem _ hm)) k1 k2
theorem xi_if_le {x : Int32} {off : Int} {q2 : Nat} (hd : decode M.2.1 pc = .ok (.ifCond .le off, 3)) (ht : (pc : Int) + off = (q2 : Int)) (hq : pc + 3 = q) (k1 : x ≤ 0 → xv_V X M Post cells slots q2 lv st h n) (k2 : ¬ (x ≤ 0) → xv_V X M Post cells slots q lv st h n) : xv_V X M Post cells slots pc lv (.int x :: st) h n := by
  subst hq
  exact xv_2 (fun _ _ _ _ _ _ _ _ _ _ _ _ _ _ e b w1 w2 => lv_if_le e b hd ht w1 w2) (fun v hm => List.mem_cons_of_mem _ hm) k1 k2
theorem xi_icmp_le {x y : Int32} {off : Int} {q2 : Nat} (hd : decode M.2.1 pc = .ok (.if_icmp .le off, 3)) (ht : (pc : Int) + off = (q2 : Int)) (hq : pc + 3 = q) (k1 : x ≤ y → xv_V X M Post cells slots q2 lv st h n) (k2 : ¬ (x ≤ y) → xv_V X M Post cells slots q lv st h n) : xv_V X M Post cells slots pc lv (.int y :: .int x :: st) h n := by
  subst hq
  exact xv_2 (fun _ _ _ _ _ _ _ _ _ _ _ _ _ _ e b w1 w2 => lv_icmp_le e b hd ht w1 w2) (fun v hm => List.mem_cons_of_mem _ (List.mem_cons_of_mem _ hm)) k1 k2
theorem xi_goto {off : Int} (hd : decode M.2.1 pc = .ok (.goto off, 3)) (ht : (pc : Int) + off = (q : Int)) (k : xv_V X M Post cells slots q lv st h n) : xv_V X M Post cells slots pc lv st h n :=
  xv_step k (fun _ _ _ _ _ _ _ _ _ _ _ _ _ _ e b _ _ _ _ _ w => lv_goto e b hd ht w) (fun _ z => z)
theorem xi_ifnonnull_r {a : Nat} {off : Int} (hd : decode M.2.1 pc = .ok (.ifnonnull off, 3)) (ht : (pc : Int) + off = (q : Int)) (k : xv_V X M Post cells slots q lv st h n) : xv_V X M Post cells slots pc lv (.ref a :: st) h n := by
  exact xv_step k (fun _ _ _ _ _ _ _ _ _ _ _ _ _ _ e b _ _ _ _ _ w => lv_ifnonnull e b hd ht w) (fun _ z => xv_tl z)
theorem xi_ifnonnull_n {off : Int} (hd : decode M.2.1 pc = .ok (.ifnonnull off, 3)) (hq : pc + 3 = q) (k : xv_V X M Post cells slots q lv st h n) : xv_V X M Post cells slots pc lv (.null :: st) h n := by
  subst hq
  exact xv_step k (fun _ _ _ _ _ _ _ _ _ _ _ _ _ _ e b _ _ _ _ _ w => lv_ifnonnullN e b hd  w) (fun _ z => xv_tl z)
theorem xi_ifnull_r {a : Nat} {off : Int} (hd : decode M.2.1 pc = .ok (.ifnull off, 3)) (hq : pc + 3 = q) (k : xv_V X M Post cells slots q lv st h n) : xv_V X M Post cells slots pc lv (.ref a :: st) h n := by
  subst hq
  exact xv_step k (fun _ _ _ _ _ _ _ _ _ _ _ _ _ _ e b _ _ _ _ _ w => lv_ifnull e b hd  w) (fun _ z => xv_tl z)
theorem xi_ifnull_n {off : Int} (hd : decode M.2.1 pc = .ok (.ifnull off, 3)) (ht : (pc : Int) + off = (q : Int)) (k : xv_V X M Post cells slots q lv st h n) : xv_V X M Post cells slots pc lv (.null :: st) h n := by
  exact xv_step k (fun _ _ _ _ _ _ _ _ _ _ _ _ _ _ e b _ _ _ _ _ w => lv_ifnullN e b hd ht w) (fun _ z => xv_tl z)
theorem xi_tableIn {dflt lo hi : Int} {offs : Array Int} {len : Nat} {x : Int32} {off : Int} (hd : decode M.2.1 pc = .ok (.tableswitch dflt lo hi offs, len)) (h1 : ¬ x.toInt < lo) (h2 : ¬ hi < x.toInt) (ho : offs[(x.toInt - lo).toNat]? = some off) (ht : (pc : Int) + off = (q : Int)) (k : xv_V X M Post cells slots q lv st h n) : xv_V X M Post cells slots pc lv (.int x :: st) h n :=
  xv_step k (fun _ _ _ _ _ _ _ _ _ _ _ _ _ _ e b _ _ _ _ _ w => lv_tableIn e b hd h1 h2 ho ht w) (fun _ z => xv_tl z)
theorem xi_tableOut {dflt lo hi : Int} {offs : Array Int} {len : Nat} {x : Int32} (hd : decode M.2.1 pc = .ok (.tableswitch dflt lo hi offs, len)) (h1 : x.toInt < lo ∨ hi < x.toInt) (ht : (pc : Int) + dflt = (q : Int)) (k : xv_V X M Post cells slots q lv st h n) : xv_V X M Post cells slots pc lv (.int x :: st) h n :=
  xv_step k (fun _ _ _ _ _ _ _ _ _ _ _ _ _ _ e b _ _ _ _ _ w => lv_tableOut e b hd h1 ht w) (fun _ z => xv_tl z)
theorem xi_mmax {x y : Int32} {i : Nat} (hd : decode M.2.1 pc = .ok (.invokestatic i, 3)) (hw : Cond.methodLink M.1 i Lib.Math.max.name ∈ xv_g ∧ Cond.static Lib.Math.max.name ∈ xv_g ∧ Cond.initialized "java/lang/Math" ∈ xv_g ∧ Cond.code Lib.Math.max.name Lib.Math.max.code 2 (some .int) ∈ xv_g) (hf : 1 ≤ M.2.2.2.2.2.frames) (hlo : (st.map fun v => v.category).sum + 13 ≤ M.2.2.2.2.2.locals) (hc : cells ≤ M.2.2.2.2.2.cells) (hs : slots ≤ M.2.2.2.2.2.slots) (hq : pc + 3 = q) (k : xv_V X M Post cells slots q lv (.int ((if x < y then y else x)) :: st) h n) : xv_V X M Post cells slots pc lv (.int y :: .int x :: st) h n := by
  subst hq
  exact xv_step k (fun _ _ _ _ _ _ _ _ _ _ _ _ _ ad e b ml o t z _ w => va_mmax e b (ml.trans z.symm) o (t _ hw.1) (t _ hw.2.1) (t _ hw.2.2.1) (t _ hw.2.2.2) hf (by rw [xv_sumc]; exact hlo) hc hs hd w) (fun _ z => xv_cons trivial (xv_tl (xv_tl z)))
theorem xi_mmin {x y : Int32} {i : Nat} (hd : decode M.2.1 pc = .ok (.invokestatic i, 3)) (hw : Cond.methodLink M.1 i Lib.Math.min.name ∈ xv_g ∧ Cond.static Lib.Math.min.name ∈ xv_g ∧ Cond.initialized "java/lang/Math" ∈ xv_g ∧ Cond.code Lib.Math.min.name Lib.Math.min.code 2 (some .int) ∈ xv_g) (hf : 1 ≤ M.2.2.2.2.2.frames) (hlo : (st.map fun v => v.category).sum + 13 ≤ M.2.2.2.2.2.locals) (hc : cells ≤ M.2.2.2.2.2.cells) (hs : slots ≤ M.2.2.2.2.2.slots) (hq : pc + 3 = q) (k : xv_V X M Post cells slots q lv (.int ((if y < x then y else x)) :: st) h n) : xv_V X M Post cells slots pc lv (.int y :: .int x :: st) h n := by
  subst hq
  exact xv_step k (fun _ _ _ _ _ _ _ _ _ _ _ _ _ ad e b ml o t z _ w => va_mmin e b (ml.trans z.symm) o (t _ hw.1) (t _ hw.2.1) (t _ hw.2.2.1) (t _ hw.2.2.2) hf (by rw [xv_sumc]; exact hlo) hc hs hd w) (fun _ z => xv_cons trivial (xv_tl (xv_tl z)))
theorem xi_mabs {x : Int32} {i : Nat} (hd : decode M.2.1 pc = .ok (.invokestatic i, 3)) (hw : Cond.methodLink M.1 i Lib.Math.abs.name ∈ xv_g ∧ Cond.static Lib.Math.abs.name ∈ xv_g ∧ Cond.initialized "java/lang/Math" ∈ xv_g ∧ Cond.code Lib.Math.abs.name Lib.Math.abs.code 1 (some .int) ∈ xv_g) (hf : 1 ≤ M.2.2.2.2.2.frames) (hlo : (st.map fun v => v.category).sum + 13 ≤ M.2.2.2.2.2.locals) (hc : cells ≤ M.2.2.2.2.2.cells) (hs : slots ≤ M.2.2.2.2.2.slots) (hq : pc + 3 = q) (k : xv_V X M Post cells slots q lv (.int ((if 0 ≤ x then x else 0 - x)) :: st) h n) : xv_V X M Post cells slots pc lv (.int x :: st) h n := by
  subst hq
  exact xv_step k (fun _ _ _ _ _ _ _ _ _ _ _ _ _ ad e b ml o t z _ w => va_mabs e b (ml.trans z.symm) o (t _ hw.1) (t _ hw.2.1) (t _ hw.2.2.1) (t _ hw.2.2.2) hf (by rw [xv_sumc]; exact hlo) hc hs hd w) (fun _ z => xv_cons trivial (xv_tl z))
end XR
def xv_ix (i : Int32) (m j : Nat) : Prop := vp_in i m ∧ i.toNatClampNeg = j
section XH
variable {X : Nat × (Nat → Int32)} {M : xv_M} {Post : xv_P} {cells slots pc q : Nat} {lv lv' : List (Nat × Value)} {st : List Value} {h : xv_H} {n : Nat} {a : Nat}
theorem xv_cext {ad ad' : Nat → Nat} {n : Nat} (e : ∀ i, i < n ∨ 1000 ≤ i → ad' i = ad i) {c : ClassId} {x : xv_E} (hx : xv_ve n x) : xv_c ad' c x = xv_c ad c x := by
  match x, hx with
  | .inl (ty, m, .inr (.inr (.inr (.inr f)))), hx =>
    show Sum.inl (c, m, Sum.inr (Sum.inr (Sum.inr (Sum.inr (fun k => (f k).map ad'))))) = Sum.inl (c, m, Sum.inr (Sum.inr (Sum.inr (Sum.inr (fun k => (f k).map ad)))))
    have : (fun k => (f k).map ad') = fun k => (f k).map ad := by
      funext k
      cases hk : f k with
      | none => rfl
      | some b => show some (ad' b) = some (ad b); rw [e b (hx k b hk)]
    rw [this]
  | .inl (_, _, .inl _), _ => rfl
  | .inl (_, _, .inr (.inl _)), _ => rfl
  | .inl (_, _, .inr (.inr (.inl _))), _ => rfl
  | .inl (_, _, .inr (.inr (.inr (.inl _)))), _ => rfl
  | .inr o, hx =>
    show Sum.inr (o.1, o.2.map (xv_r ad')) = Sum.inr (o.1, o.2.map (xv_r ad))
    rw [xv_srext e hx]
/-- a world, one cell of it written -/
theorem xv_Wup {D : va_G} {A : Nat → Prop} {ad : Nat → Nat} {s : State} {H1 : Heap} {cA : Nat → ClassId} (hn : n ≤ 1000) (ht : xv_t s cA h n) (hv : ∀ i, i < n → xv_ve n (h i)) (e : xv_E)
    (hP : va_P D xv_cl ((xv_w ad cA h n).set a (ad a, xv_c ad (cA a) e)) H1) (hD : va_D A ((xv_w ad cA h n).set a (ad a, xv_c ad (cA a) e))) (ht' : ∀ ty x, e = .inl (ty, x) → ArrOfT s (cA a) ty ∧ va_RA s (cA a) ty) (hve : xv_ve n e) : xv_W D A ad (va_up h a e) n s H1 := by
  rw [xv_wset] at hP hD
  refine ⟨hn, cA, hP, hD, fun i hi ty x hx => ?_, fun i hi => ?_⟩
  · by_cases he : i = a
    · subst he
      rw [va_up_self] at hx
      exact ht' ty x hx
    · rw [va_up_ne _ _ he] at hx
      exact ht i hi ty x hx
  · by_cases he : i = a
    · subst he
      rw [va_up_self]
      exact hve
    · rw [va_up_ne _ _ he]
      exact hv i hi
def xv_fl (own : String) (i ci k : Nat) (fin : Bool) (ty : FieldType) : Prop := ∃ (C : String) (T : u_T) (N : Nat) (ty0 : Nat → FieldType), xv_cl[ci]? = some (C, T, N) ∧ (∀ w ∈ u_ws C T N, w ∈ xv_g) ∧ k < N ∧ Cond.fieldLink own i C (T k).2.1 (T k).2.2.1 ∈ xv_g ∧ (T k).1 = C ∧ (T k).2.2.2 = fin ∧ parseFieldDescriptor (T k).2.2.1 = some ty ∧
  (∀ k, k < N → parseFieldDescriptor (T k).2.2.1 = some (ty0 k)) ∧ ∀ a, a < N → ∀ b, b < N → a ≠ b → (T a).2.1 ≠ (T b).2.1
theorem xi_getf {i ci k : Nat} {fin : Bool} {ty : FieldType} {fs : List Value} {v : Value} (hd : decode M.2.1 pc = .ok (.getfield i, 3)) (fl : xv_fl M.1 i ci k fin ty) (hh : a < n ∧ h a = .inr (ci, fs)) (hv : fs[k]? = some v) (hq : pc + 3 = q) (kk : xv_V X M Post cells slots q lv (v :: st) h n) : xv_V X M Post cells slots pc lv (.ref a :: st) h n := by
  subst hq
  intro p l e s m args below meth c D A ad0 n0 Qf C ad H locs ls Q
  obtain ⟨CC, T, N, ty0, hc, hin, hk, hlink, hC, -⟩ := fl
  obtain ⟨hn, cA, hP, hD, ht, hve⟩ := Q.2.2.1
  have he : (xv_w ad cA h n)[a]? = some (ad a, .inr (ci, fs.map (xv_r ad))) := by rw [xv_wget hh.1, hh.2]; rfl
  refine va_get C.1 C.2.1 C.2.2.2.2.1 hin C.2.2.2.1 C.2.2.2.2.2.2.1 hP a he hc k hk (C.2.2.2.2.1 _ hlink) (fun x hx => by rw [← hC]; exact hx) (v := xv_r ad v) (by rw [List.getElem?_map, hv]; rfl) hd ?_
  have hvv : xv_v n v := by
    have := hve a hh.1
    rw [hh.2] at this
    exact this v (List.mem_of_getElem? hv)
  exact kk p l e s m args below meth c D A ad0 n0 Qf C ad H locs ls ⟨Q.1, Q.2.1, Q.2.2.1, Q.2.2.2.1, Q.2.2.2.2.1, Q.2.2.2.2.2.1, xv_cons hvv (xv_tl Q.2.2.2.2.2.2)⟩
theorem xi_putf {i ci k : Nat} {fin : Bool} {ty : FieldType} {fs : List Value} {v : Value} (hd : decode M.2.1 pc = .ok (.putfield i, 3)) (fl : xv_fl M.1 i ci k fin ty) (hh : a < n ∧ h a = .inr (ci, fs)) (hfin : fin = false ∨ (M.2.2.2.1 = true ∧ ∀ q, xv_cl[ci]? = some q → q.1 = M.1)) (hn : ∀ ad, narrow ty (xv_r ad v) = xv_r ad v) (hf : ∀ ad, fits ty (xv_r ad v) = true) (hl : k < fs.length) (hq : pc + 3 = q) (kk : xv_V X M Post cells slots q lv st (va_up h a (.inr (ci, fs.set k v))) n) : xv_V X M Post cells slots pc lv (v :: .ref a :: st) h n := by
  subst hq
  intro p l e s m args below meth c D A ad0 n0 Qf C ad H locs ls Q
  obtain ⟨CC, T, N, ty0, hc, hin, hk, hlink, hC, hfi, hty, hty0, hnm⟩ := fl
  obtain ⟨hn1, cA, hP, hD, ht, hve⟩ := Q.2.2.1
  have he : (xv_w ad cA h n)[a]? = some (ad a, .inr (ci, fs.map (xv_r ad))) := by rw [xv_wget hh.1, hh.2]; rfl
  have hvv : ∀ w ∈ fs.set k v, xv_v n w := fun w hw => by
    rcases List.mem_or_eq_of_mem_set hw with h1 | h1
    · have := hve a hh.1
      rw [hh.2] at this
      exact this w h1
    · rw [h1]; exact Q.2.2.2.2.2.2 v List.mem_cons_self
  have go : ∀ (H1 : Heap) (locs1 : List Loc), va_P D xv_cl ((xv_w ad cA h n).set a (ad a, .inr (ci, (fs.map (xv_r ad)).set k (xv_r ad v)))) H1 → va_D A ((xv_w ad cA h n).set a (ad a, .inr (ci, (fs.map (xv_r ad)).set k (xv_r ad v)))) → va_S A s.heap H1 locs1 → W p l e M.2.2.2.2.2 s m args below meth c H1 locs1 cells slots Qf (F0 m (pc + 3) ls (st.map (xv_r ad))) := by
    intro H1 locs1 hP1 hD1 hS1
    rw [← List.map_set] at hP1 hD1
    exact kk p l e s m args below meth c D A ad0 n0 Qf C ad H1 locs1 ls ⟨Q.1, Q.2.1, xv_Wup hn1 ht hve (.inr (ci, fs.set k v)) hP1 hD1 (fun _ _ h => by cases h) hvv, hS1, Q.2.2.2.2.1, Q.2.2.2.2.2.1, xv_tl (xv_tl Q.2.2.2.2.2.2)⟩
  rcases hfin with h0 | ⟨h0, h1⟩
  · exact va_put C.1 C.2.1 C.2.2.2.2.1 hin ty0 hty0 hnm C.2.2.2.1 C.2.2.2.2.2.2.1 hP hD Q.2.2.2.1 a he hc k hk (C.2.2.2.2.1 _ hlink) (fun x hx => by rw [← hC]; exact hx) (hfi.trans h0) hty (hn ad) (hf ad) (by rw [List.length_map]; exact hl) hd go
  · cases hfb : (T k).2.2.2 with
    | false => exact va_put C.1 C.2.1 C.2.2.2.2.1 hin ty0 hty0 hnm C.2.2.2.1 C.2.2.2.2.2.2.1 hP hD Q.2.2.2.1 a he hc k hk (C.2.2.2.2.1 _ hlink) (fun x hx => by rw [← hC]; exact hx) hfb hty (hn ad) (hf ad) (by rw [List.length_map]; exact hl) hd go
    | true => exact va_putF C.1 C.2.1 C.2.2.2.2.1 hin ty0 hty0 hnm C.2.2.2.1 C.2.2.2.2.2.2.1 hP hD Q.2.2.2.1 a he hc k hk (C.2.2.2.2.1 _ hlink) (fun x hx => by rw [← hC]; exact hx) hfb (C.2.2.2.2.2.1 h0) (hC.trans (h1 _ hc)) hty (hn ad) (hf ad) (by rw [List.length_map]; exact hl) hd go
theorem xi_iald {m0 : Nat} {f : Nat → Int32} {i : Int32} (hd : decode M.2.1 pc = .ok (.iaload, 1)) (hh : a < n ∧ h a = .inl (.int, m0, .inl f)) {j : Nat} (hi : xv_ix i m0 j) (hq : pc + 1 = q) (kk : xv_V X M Post cells slots q lv (.int (f j) :: st) h n) : xv_V X M Post cells slots pc lv (.int i :: .ref a :: st) h n := by
  obtain ⟨hi, rfl⟩ := hi
  subst hq
  intro p l e s m args below meth c D A ad0 n0 Qf C ad H locs ls Q
  obtain ⟨hn, cA, hP, hD, ht, hve⟩ := Q.2.2.1
  have he : (xv_w ad cA h n)[a]? = some (ad a, .inl (cA a, m0, .inl f)) := by rw [xv_wget hh.1, hh.2]; rfl
  have hK : va_K D xv_cl [(cA a, .int)] s := ⟨C.2.2.2.2.2.2.1.1, fun k w hk => by
    match k, hk with
    | 0, hk => cases hk; exact ht a hh.1 _ _ hh.2
    | k + 1, hk => simp at hk⟩
  exact va_iald C.1 C.2.1 hK hP a 0 he rfl hi hd (kk p l e s m args below meth c D A ad0 n0 Qf C ad H locs ls ⟨Q.1, Q.2.1, Q.2.2.1, Q.2.2.2.1, Q.2.2.2.2.1, Q.2.2.2.2.2.1, xv_cons trivial (xv_tl (xv_tl Q.2.2.2.2.2.2))⟩)
theorem xi_zald {m0 : Nat} {f : Nat → Int32} {i : Int32} (hd : decode M.2.1 pc = .ok (.baload, 1)) (hh : a < n ∧ h a = .inl (.boolean, m0, .inl f)) {j : Nat} (hi : xv_ix i m0 j) (hq : pc + 1 = q) (kk : xv_V X M Post cells slots q lv (.int (f j) :: st) h n) : xv_V X M Post cells slots pc lv (.int i :: .ref a :: st) h n := by
  obtain ⟨hi, rfl⟩ := hi
  subst hq
  intro p l e s m args below meth c D A ad0 n0 Qf C ad H locs ls Q
  obtain ⟨hn, cA, hP, hD, ht, hve⟩ := Q.2.2.1
  have he : (xv_w ad cA h n)[a]? = some (ad a, .inl (cA a, m0, .inl f)) := by rw [xv_wget hh.1, hh.2]; rfl
  have hK : va_K D xv_cl [(cA a, .boolean)] s := ⟨C.2.2.2.2.2.2.1.1, fun k w hk => by
    match k, hk with
    | 0, hk => cases hk; exact ht a hh.1 _ _ hh.2
    | k + 1, hk => simp at hk⟩
  exact va_zald C.1 C.2.1 hK hP a 0 he rfl hi hd (kk p l e s m args below meth c D A ad0 n0 Qf C ad H locs ls ⟨Q.1, Q.2.1, Q.2.2.1, Q.2.2.2.1, Q.2.2.2.2.1, Q.2.2.2.2.2.1, xv_cons trivial (xv_tl (xv_tl Q.2.2.2.2.2.2))⟩)
theorem xi_iast {m0 : Nat} {f : Nat → Int32} {i x : Int32} (hd : decode M.2.1 pc = .ok (.iastore, 1)) (hh : a < n ∧ h a = .inl (.int, m0, .inl f)) {j : Nat} (hi : xv_ix i m0 j) (hq : pc + 1 = q) (kk : xv_V X M Post cells slots q lv st (va_up h a (.inl (.int, m0, .inl (upd f j x)))) n) : xv_V X M Post cells slots pc lv (.int x :: .int i :: .ref a :: st) h n := by
  obtain ⟨hi, rfl⟩ := hi
  subst hq
  intro p l e s m args below meth c D A ad0 n0 Qf C ad H locs ls Q
  obtain ⟨hn, cA, hP, hD, ht, hve⟩ := Q.2.2.1
  have he : (xv_w ad cA h n)[a]? = some (ad a, .inl (cA a, m0, .inl f)) := by rw [xv_wget hh.1, hh.2]; rfl
  have hK : va_K D xv_cl [(cA a, .int)] s := ⟨C.2.2.2.2.2.2.1.1, fun k w hk => by
    match k, hk with
    | 0, hk => cases hk; exact ht a hh.1 _ _ hh.2
    | k + 1, hk => simp at hk⟩
  exact va_iast C.1 C.2.1 hK hP hD Q.2.2.2.1 a 0 he rfl hi hd fun H1 locs1 hP1 hD1 hS1 => kk p l e s m args below meth c D A ad0 n0 Qf C ad H1 locs1 ls ⟨Q.1, Q.2.1, xv_Wup hn ht hve (.inl (.int, m0, .inl (upd f i.toNatClampNeg x))) hP1 hD1 (fun ty y e => by cases e; exact ht a hh.1 _ _ hh.2) trivial, hS1, Q.2.2.2.2.1, Q.2.2.2.2.2.1, xv_tl (xv_tl (xv_tl Q.2.2.2.2.2.2))⟩
theorem xi_zast {m0 : Nat} {f : Nat → Int32} {i x : Int32} (hd : decode M.2.1 pc = .ok (.bastore, 1)) (hh : a < n ∧ h a = .inl (.boolean, m0, .inl f)) {j : Nat} (hi : xv_ix i m0 j) (hx : vp_nar .boolean x = x) (hq : pc + 1 = q) (kk : xv_V X M Post cells slots q lv st (va_up h a (.inl (.boolean, m0, .inl (upd f j x)))) n) : xv_V X M Post cells slots pc lv (.int x :: .int i :: .ref a :: st) h n := by
  obtain ⟨hi, rfl⟩ := hi
  subst hq
  intro p l e s m args below meth c D A ad0 n0 Qf C ad H locs ls Q
  obtain ⟨hn, cA, hP, hD, ht, hve⟩ := Q.2.2.1
  have he : (xv_w ad cA h n)[a]? = some (ad a, .inl (cA a, m0, .inl f)) := by rw [xv_wget hh.1, hh.2]; rfl
  have hK : va_K D xv_cl [(cA a, .boolean)] s := ⟨C.2.2.2.2.2.2.1.1, fun k w hk => by
    match k, hk with
    | 0, hk => cases hk; exact ht a hh.1 _ _ hh.2
    | k + 1, hk => simp at hk⟩
  exact va_zast C.1 C.2.1 hK hP hD Q.2.2.2.1 a 0 he rfl hi hd fun H1 locs1 hP1 hD1 hS1 => kk p l e s m args below meth c D A ad0 n0 Qf C ad H1 locs1 ls ⟨Q.1, Q.2.1, xv_Wup hn ht hve (.inl (.boolean, m0, .inl (upd f i.toNatClampNeg x))) (by rw [hx] at hP1; exact hP1) (by rw [hx] at hD1; exact hD1) (fun ty y e => by cases e; exact ht a hh.1 _ _ hh.2) trivial, hS1, Q.2.2.2.2.1, Q.2.2.2.2.2.1, xv_tl (xv_tl (xv_tl Q.2.2.2.2.2.2))⟩
theorem xi_aald {ty : FieldType} {m0 : Nat} {f : Nat → Option Nat} {i : Int32} {v : Value} (hd : decode M.2.1 pc = .ok (.aaload, 1)) (hh : a < n ∧ h a = .inl (ty, m0, .inr (.inr (.inr (.inr f))))) (hty : ty.isReference = true) {j : Nat} (hi : xv_ix i m0 j) (hv : va_rf (f j) = v) (hq : pc + 1 = q) (kk : xv_V X M Post cells slots q lv (v :: st) h n) : xv_V X M Post cells slots pc lv (.int i :: .ref a :: st) h n := by
  obtain ⟨hi, rfl⟩ := hi
  subst hq
  subst hv
  intro p l e s m args below meth c D A ad0 n0 Qf C ad H locs ls Q
  obtain ⟨hn, cA, hP, hD, ht, hve⟩ := Q.2.2.1
  have he : (xv_w ad cA h n)[a]? = some (ad a, .inl (cA a, m0, .inr (.inr (.inr (.inr (fun k => (f k).map ad)))))) := by rw [xv_wget hh.1, hh.2]; rfl
  have hlt : i.toNatClampNeg < m0 := Nat.not_le.mp fun z => hi (Or.inr z)
  have hvv : xv_v n (va_rf (f i.toNatClampNeg)) := by
    have := hve a hh.1
    rw [hh.2] at this
    cases hfi : f i.toNatClampNeg with
    | none => trivial
    | some b => exact this _ b hfi
  refine W.aald (v := xv_r ad (va_rf (f i.toNatClampNeg))) (ty := ty) C.1 C.2.1 (hP a _ he) ((ht a hh.1 _ _ hh.2).1 m0 (fun j => va_rf ((f j).map ad))) hty (fun z => by cases z) (by show ¬ (i < 0 ∨ (arrV _ _ _).slots.size ≤ _); rw [arrV_size]; exact hi) (by show (arrV _ _ _).slots[_]? = _; rw [arrV_read _ _ hlt, xv_rrf]) rfl rfl hd ?_
  exact kk p l e s m args below meth c D A ad0 n0 Qf C ad H locs ls ⟨Q.1, Q.2.1, Q.2.2.1, Q.2.2.2.1, Q.2.2.2.2.1, Q.2.2.2.2.2.1, xv_cons hvv (xv_tl (xv_tl Q.2.2.2.2.2.2))⟩
theorem xi_aast {m0 b ci : Nat} {CC : String} {T : u_T} {N : Nat} {vs : List Value} {f : Nat → Option Nat} {i : Int32} (hd : decode M.2.1 pc = .ok (.aastore, 1)) (hc : xv_cl[ci]? = some (CC, T, N)) (hh : a < n ∧ h a = .inl (.object CC, m0, .inr (.inr (.inr (.inr f))))) (hb : b < n ∧ h b = .inr (ci, vs)) {j : Nat} (hi : xv_ix i m0 j) (hq : pc + 1 = q) (kk : xv_V X M Post cells slots q lv st (va_up h a (.inl (.object CC, m0, .inr (.inr (.inr (.inr (va_up f j (some b)))))))) n) : xv_V X M Post cells slots pc lv (.ref b :: .int i :: .ref a :: st) h n := by
  obtain ⟨hi, rfl⟩ := hi
  subst hq
  intro p l e s m args below meth c D A ad0 n0 Qf C ad H locs ls Q
  obtain ⟨hn, cA, hP, hD, ht, hve⟩ := Q.2.2.1
  have he : (xv_w ad cA h n)[a]? = some (ad a, .inl (cA a, m0, .inr (.inr (.inr (.inr (fun k => (f k).map ad)))))) := by rw [xv_wget hh.1, hh.2]; rfl
  have hb2 : (xv_w ad cA h n)[b]? = some (ad b, .inr (ci, vs.map (xv_r ad))) := by rw [xv_wget hb.1, hb.2]; rfl
  have hK : va_K D xv_cl [(cA a, .object CC)] s := ⟨C.2.2.2.2.2.2.1.1, fun k w hk => by
    match k, hk with
    | 0, hk => cases hk; exact ht a hh.1 _ _ hh.2
    | k + 1, hk => simp at hk⟩
  have heq : (va_up (fun k => (f k).map ad) i.toNatClampNeg (some (ad b))) = fun k => ((va_up f i.toNatClampNeg (some b)) k).map ad := by
    funext k
    by_cases hk : k = i.toNatClampNeg
    · simp [va_up, hk]
    · simp [va_up, hk]
  refine va_astq C.1 C.2.1 hK hP hD Q.2.2.2.1 a 0 b ci (r := (CC, T, N)) he rfl hb2 hc hi hd fun H1 locs1 hP1 hD1 hS1 => ?_
  rw [heq] at hP1 hD1
  exact kk p l e s m args below meth c D A ad0 n0 Qf C ad H1 locs1 ls ⟨Q.1, Q.2.1, xv_Wup hn ht hve (.inl (.object CC, m0, .inr (.inr (.inr (.inr (va_up f i.toNatClampNeg (some b))))))) hP1 hD1 (fun ty y e => by cases e; exact ht a hh.1 _ _ hh.2) (fun k z hz => by
    by_cases hk : k = i.toNatClampNeg
    · rw [hk, va_up_self] at hz
      cases hz
      exact Or.inl hb.1
    · rw [va_up_ne _ _ hk] at hz
      have := hve a hh.1
      rw [hh.2] at this
      exact this k z hz), hS1, Q.2.2.2.2.1, Q.2.2.2.2.2.1, xv_tl (xv_tl (xv_tl Q.2.2.2.2.2.2))⟩
theorem xi_alen {ty : FieldType} {x : vp_A} {v : Int32} (hd : decode M.2.1 pc = .ok (.arraylength, 1)) (hh : a < n ∧ h a = .inl (ty, x)) (hv : Int32.ofNat x.1 = v) (hq : pc + 1 = q) (kk : xv_V X M Post cells slots q lv (.int v :: st) h n) : xv_V X M Post cells slots pc lv (.ref a :: st) h n := by
  subst hq
  intro p l e s m args below meth c D A ad0 n0 Qf C ad H locs ls Q
  obtain ⟨hn, cA, hP, hD, ht, hve⟩ := Q.2.2.1
  have he : (xv_w ad cA h n)[a]? = some (ad a, .inl (cA a, xv_a ad x)) := by rw [xv_wget hh.1, hh.2]; rfl
  have h1 : (xv_a ad x).1 = x.1 := by
    match x with
    | (_, .inr (.inr (.inr (.inr f)))) => rfl
    | (_, .inl _) => rfl
    | (_, .inr (.inl _)) => rfl
    | (_, .inr (.inr (.inl _))) => rfl
    | (_, .inr (.inr (.inr (.inl _)))) => rfl
  have hK : va_K D xv_cl [(cA a, ty)] s := ⟨C.2.2.2.2.2.2.1.1, fun k w hk => by
    match k, hk with
    | 0, hk => cases hk; exact ht a hh.1 _ _ hh.2
    | k + 1, hk => simp at hk⟩
  exact va_alen C.1 C.2.1 hK hP a 0 he rfl (by rw [h1]; exact hv) hd (kk p l e s m args below meth c D A ad0 n0 Qf C ad H locs ls ⟨Q.1, Q.2.1, Q.2.2.1, Q.2.2.2.1, Q.2.2.2.2.1, Q.2.2.2.2.2.1, xv_cons trivial (xv_tl Q.2.2.2.2.2.2)⟩)
-- what is read alone
theorem xi_gets {i j : Nat} {w : String × List Int32} (hd : decode M.2.1 pc = .ok (.getstatic i, 3)) (hj : xv_rf[j]? = some w) (hw : Cond.fieldLink M.1 i "ValveShop" w.1 "[I" ∈ xv_g ∨ Cond.fieldLinkNest M.1 i "ValveShop" w.1 "[I" "ValveShop" ∈ xv_nw) (hq : pc + 3 = q) (kk : xv_V X M Post cells slots q lv (.ref (1000 + j) :: st) h n) : xv_V X M Post cells slots pc lv st h n := by
  subst hq
  intro p l e s m args below meth c D A ad0 n0 Qf C ad H locs ls Q
  have hz := C.2.2.2.2.2.2.2.2.1.2.1 j w hj
  rw [← Q.2.1 (1000 + j) (Or.inr (Nat.le_add_right _ _))] at hz
  have hk := kk p l e s m args below meth c D A ad0 n0 Qf C ad H locs ls ⟨Q.1, Q.2.1, Q.2.2.1, Q.2.2.2.1, Q.2.2.2.2.1, Q.2.2.2.2.2.1, xv_cons (Or.inr (Nat.le_add_right _ _)) Q.2.2.2.2.2.2⟩
  rcases hw with hw | hw
  · exact va_gets C.1 C.2.1 hz Q.2.2.2.1 C.2.2.2.1 (C.2.2.2.2.1 _ hw) (fun _ h9 => h9) hd hk
  · exact va_getsN C.1 C.2.1 hz Q.2.2.2.1 C.2.2.2.1 (va_Nw.use rfl (C.2.2.2.2.2.2.2.2.1.2.2 _ hw)) (fun _ h9 => h9) hd hk
theorem xi_roald {j : Nat} {w : Nat × (Nat → Int32)} {i x : Int32} (hd : decode M.2.1 pc = .ok (.iaload, 1)) (hj : xv_ro X j = some w) {jj : Nat} (hi : xv_ix i w.1 jj) (hx : w.2 jj = x) (hq : pc + 1 = q) (kk : xv_V X M Post cells slots q lv (.int x :: st) h n) : xv_V X M Post cells slots pc lv (.int i :: .ref (1000 + j) :: st) h n := by
  obtain ⟨hi, rfl⟩ := hi
  subst hq
  subst hx
  intro p l e s m args below meth c D A ad0 n0 Qf C ad H locs ls Q
  have hz := C.2.2.2.2.2.2.2.2.1.1 j w hj
  rw [← Q.2.1 (1000 + j) (Or.inr (Nat.le_add_right _ _))] at hz
  exact va_ti C.1 C.2.1 hz Q.2.2.2.1 hi rfl hd (kk p l e s m args below meth c D A ad0 n0 Qf C ad H locs ls ⟨Q.1, Q.2.1, Q.2.2.1, Q.2.2.2.1, Q.2.2.2.2.1, Q.2.2.2.2.2.1, xv_cons trivial (xv_tl (xv_tl Q.2.2.2.2.2.2))⟩)
theorem xi_rolen {j : Nat} {w : Nat × (Nat → Int32)} {x : Int32} (hd : decode M.2.1 pc = .ok (.arraylength, 1)) (hj : xv_ro X j = some w) (hx : Int32.ofNat w.1 = x) (hq : pc + 1 = q) (kk : xv_V X M Post cells slots q lv (.int x :: st) h n) : xv_V X M Post cells slots pc lv (.ref (1000 + j) :: st) h n := by
  subst hq
  intro p l e s m args below meth c D A ad0 n0 Qf C ad H locs ls Q
  have hz := C.2.2.2.2.2.2.2.2.1.1 j w hj
  rw [← Q.2.1 (1000 + j) (Or.inr (Nat.le_add_right _ _))] at hz
  exact va_tlen C.1 C.2.1 hz Q.2.2.2.1 hx hd (kk p l e s m args below meth c D A ad0 n0 Qf C ad H locs ls ⟨Q.1, Q.2.1, Q.2.2.1, Q.2.2.2.1, Q.2.2.2.2.1, Q.2.2.2.2.2.1, xv_cons trivial (xv_tl Q.2.2.2.2.2.2)⟩)
theorem xi_copy {i a0 n0' n1' : Nat} {f g : Nat → Int32} {sp dp k : Int32} (hd : decode M.2.1 pc = .ok (.invokestatic i, 3)) (hw : Cond.methodLink M.1 i arraycopyName ∈ xv_g ∧ Cond.native arraycopyName ∈ xv_g ∧ Cond.static arraycopyName ∈ xv_g ∧ Cond.initialized "java/lang/System" ∈ xv_g) (hf : 1 ≤ M.2.2.2.2.2.frames) (hlo : (st.map fun v => v.category).sum + (nativeFrameWords "java/lang/System" "arraycopy" 5 + 11) ≤ M.2.2.2.2.2.locals)
    (h0 : a0 < n ∧ h a0 = .inl (.int, n0', .inl f)) (h1 : a < n ∧ h a = .inl (.int, n1', .inl g)) (g1 : ¬ sp < 0) (g2 : ¬ dp < 0) (g3 : ¬ k < 0) (g4 : sp.toNatClampNeg + k.toNatClampNeg ≤ n0') (g5 : dp.toNatClampNeg + k.toNatClampNeg ≤ n1') (hq : pc + 3 = q)
    (kk : xv_V X M Post cells slots q lv st (va_up h a (.inl (.int, n1', .inl (va_cpy f g sp.toNatClampNeg dp.toNatClampNeg k.toNatClampNeg)))) n) : xv_V X M Post cells slots pc lv (.int k :: .int dp :: .ref a :: .int sp :: .ref a0 :: st) h n := by
  subst hq
  intro p l e s m args below meth c D A ad0 n0 Qf C ad H locs ls Q
  obtain ⟨hn, cA, hP, hD, ht, hve⟩ := Q.2.2.1
  have he0 : (xv_w ad cA h n)[a0]? = some (ad a0, .inl (cA a0, n0', .inl f)) := by rw [xv_wget h0.1, h0.2]; rfl
  have he1 : (xv_w ad cA h n)[a]? = some (ad a, .inl (cA a, n1', .inl g)) := by rw [xv_wget h1.1, h1.2]; rfl
  have hK : va_K D xv_cl [(cA a0, .int), (cA a, .int)] s := ⟨C.2.2.2.2.2.2.1.1, fun k w hk => by
    match k, hk with
    | 0, hk => cases hk; exact ht a0 h0.1 _ _ h0.2
    | 1, hk => cases hk; exact ht a h1.1 _ _ h1.2
    | k + 2, hk => simp at hk⟩
  exact va_copyi C.1 C.2.1 (C.2.2.1.trans Q.2.2.2.2.1.1.symm) C.2.2.2.1 (C.2.2.2.2.1 _ hw.1) (C.2.2.2.2.1 _ hw.2.1) (C.2.2.2.2.1 _ hw.2.2.1) (C.2.2.2.2.1 _ hw.2.2.2) hK hP hD Q.2.2.2.1 a0 a 0 1 he0 he1 rfl rfl rfl g1 g2 g3 g4 g5 (fun _ _ => rfl) hf (by rw [xv_sumc]; exact hlo) hd fun H1 locs1 hP1 hD1 hS1 =>
    kk p l e s m args below meth c D A ad0 n0 Qf C ad H1 locs1 ls ⟨Q.1, Q.2.1, xv_Wup hn ht hve (.inl (.int, n1', .inl (va_cpy f g sp.toNatClampNeg dp.toNatClampNeg k.toNatClampNeg))) hP1 hD1 (fun ty y e => by cases e; exact ht a h1.1 _ _ h1.2) trivial, hS1, Q.2.2.2.2.1, Q.2.2.2.2.2.1, xv_tl (xv_tl (xv_tl (xv_tl (xv_tl Q.2.2.2.2.2.2))))⟩
-- ends
theorem xi_ret {v : Value} (hr : xv_ret M.2.1 M.2.2.2.2.1 pc (some v)) (hc : cells ≤ M.2.2.2.2.2.cells) (hs : slots ≤ M.2.2.2.2.2.slots) (hp : Post (some v) h n) : xv_V X M Post cells slots pc lv [v] h n :=
  fun p l e s m args below meth c D A ad0 n0 Qf C ad H locs ls Q => C.2.2.2.2.2.2.2.2.2 (some v) ad H locs cells slots ls pc h n hr Q.1 Q.2.1 hc hs Q.2.2.1 (fun w hw => by cases hw; exact Q.2.2.2.2.2.2 v List.mem_cons_self) Q.2.2.2.1 hp
theorem xi_vret (hr : xv_ret M.2.1 M.2.2.2.2.1 pc none) (hc : cells ≤ M.2.2.2.2.2.cells) (hs : slots ≤ M.2.2.2.2.2.slots) (hp : Post none h n) : xv_V X M Post cells slots pc lv [] h n :=
  fun p l e s m args below meth c D A ad0 n0 Qf C ad H locs ls Q => C.2.2.2.2.2.2.2.2.2 none ad H locs cells slots ls pc h n hr Q.1 Q.2.1 hc hs Q.2.2.1 (fun w hw => by cases hw) Q.2.2.2.1 hp
end XH
