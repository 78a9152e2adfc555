section XM
variable {X : Nat × (Nat → Int32)} {M : xv_M} {Post : xv_P} {cells slots pc q : Nat} {lv lv' : List (Nat × Value)} {st : List Value} {h : xv_H} {n : Nat} {a : Nat}
/-- the heap behind new int[N][K]: the outer array at n, its rows behind it -/
def xv_mh (h : xv_H) (n N K : Nat) : xv_H := fun j => if j = n then .inl (.array .int, N, .inr (.inr (.inr (.inr (fun k => if k < N then some (n + 1 + k) else none))))) else if n < j ∧ j ≤ n + N then .inl (.int, K, .inl (fun _ => 0)) else h j
def xv_ma (ad : Nat → Nat) (n N q0 : Nat) (r : Nat → Nat) : Nat → Nat := fun j => if j = n then q0 else if n < j ∧ j ≤ n + N then r (j - n - 1) else ad j
theorem xv_mlist {ad : Nat → Nat} {cA : Nat → ClassId} {h : xv_H} {n N K q0 : Nat} {r : Nat → Nat} {cO cy : ClassId} {f : Nat → va_E} (hv : ∀ i, i < n → xv_ve n (h i)) (hn : n + 1 + N ≤ 1000) :
    (xv_w ad cA h n ++ [(q0, .inl (cO, N, .inr (.inr (.inr (.inr (fun i => if i < N then some (r i) else none))))))]) ++ va_pl ([] ++ (List.range N).map r) (vr_up f ((List.range N).map r) (.inl (cy, K, .inl (fun _ => 0)))) = xv_w (xv_ma ad n N q0 r) (fun j => if j = n then cO else if n < j then cy else cA j) (xv_mh h n N K) (n + 1 + N) := by
  have hx : ∀ i, i < n ∨ 1000 ≤ i → xv_ma ad n N q0 r i = ad i := fun i hi => by
    unfold xv_ma
    rw [if_neg (by omega), if_neg (by omega)]
  show _ = (List.range (n + 1 + N)).map _
  rw [List.range_add, List.map_append, List.range_succ, List.map_append]
  congr 1
  · congr 1
    · apply List.map_congr_left
      intro i hi
      have hi := List.mem_range.mp hi
      show (ad i, xv_c ad (cA i) (h i)) = (xv_ma ad n N q0 r i, xv_c (xv_ma ad n N q0 r) (if i = n then cO else if n < i then cy else cA i) (xv_mh h n N K i))
      rw [hx i (Or.inl hi), if_neg (by omega), if_neg (by omega), show xv_mh h n N K i = h i by unfold xv_mh; rw [if_neg (by omega), if_neg (by omega)], xv_cext hx (hv i hi)]
    · show [(q0, _)] = [(xv_ma ad n N q0 r n, xv_c (xv_ma ad n N q0 r) (if n = n then cO else if n < n then cy else cA n) (xv_mh h n N K n))]
      rw [if_pos rfl, show xv_ma ad n N q0 r n = q0 by unfold xv_ma; rw [if_pos rfl], show xv_mh h n N K n = .inl (.array .int, N, .inr (.inr (.inr (.inr (fun k => if k < N then some (n + 1 + k) else none))))) by unfold xv_mh; rw [if_pos rfl]]
      show [(q0, _)] = [(q0, Sum.inl (cO, N, Sum.inr (Sum.inr (Sum.inr (Sum.inr (fun k => (if k < N then some (n + 1 + k) else none).map (xv_ma ad n N q0 r)))))))]
      have : (fun i => if i < N then some (r i) else none) = fun k => (if k < N then some (n + 1 + k) else none).map (xv_ma ad n N q0 r) := by
        funext k
        by_cases hk : k < N
        · rw [if_pos hk, if_pos hk]
          show some (r k) = some (xv_ma ad n N q0 r (n + 1 + k))
          unfold xv_ma
          rw [if_neg (by omega), if_pos (by omega), show n + 1 + k - n - 1 = k by omega]
        · rw [if_neg hk, if_neg hk]
          rfl
      rw [this]
  · rw [List.nil_append]
    show List.map (fun a => (a, vr_up f ((List.range N).map r) (.inl (cy, K, .inl (fun _ => 0))) a)) ((List.range N).map r) = _
    rw [List.map_map, List.map_map]
    apply List.map_congr_left
    intro k hk
    have hk2 := List.mem_range.mp hk
    show (r k, vr_up f ((List.range N).map r) (.inl (cy, K, .inl (fun _ => 0))) (r k)) = (xv_ma ad n N q0 r (n + 1 + k), xv_c (xv_ma ad n N q0 r) (if n + 1 + k = n then cO else if n < n + 1 + k then cy else cA (n + 1 + k)) (xv_mh h n N K (n + 1 + k)))
    rw [vr_up_in (List.mem_map.mpr ⟨k, hk, rfl⟩), if_neg (by omega), if_pos (by omega), show xv_ma ad n N q0 r (n + 1 + k) = r k by unfold xv_ma; rw [if_neg (by omega), if_pos (by omega), show n + 1 + k - n - 1 = k by omega], show xv_mh h n N K (n + 1 + k) = .inl (.int, K, .inl (fun _ => 0)) by unfold xv_mh; rw [if_neg (by omega), if_pos (by omega)]]
    rfl
theorem xi_mna {i : Nat} {k nn : Int32} {N K : Nat} (hd : decode M.2.1 pc = .ok (.multianewarray i 2, 4)) (hw : Cond.classLink M.1 i ("[" ++ (FieldType.array .int).toString) ∈ xv_g ∧ Cond.arrayClass .int ∈ xv_g) (hov : Cond.arrayOver (.array .int) ∈ xv_nw) (hn0 : ¬ nn < 0) (hk0 : ¬ k < 0) (hN : nn.toNatClampNeg = N) (hK' : k.toNatClampNeg = K) (hb1 : N * 4 ≤ 536870912) (hb2 : K * componentBytes .int ≤ 536870912) (hb3 : K ≤ 536870912) (hn : n + 1 + N ≤ 1000) (hcl : cells + (1 + N) ≤ M.2.2.2.2.2.cells) (hsl : slots + (N + N * K) ≤ M.2.2.2.2.2.slots) (hq : pc + 4 = q)
    (kk : xv_V X M Post (cells + 1 + N) (slots + N + N * K) q lv (.ref n :: st) (xv_mh h n N K) (n + 1 + N)) : xv_V X M Post cells slots pc lv (.int k :: .int nn :: st) h n := by
  subst hq
  intro p l e s m args below meth c D A ad0 n0 Qf C ad H locs ls Q
  obtain ⟨hn1, cA, hP, hD, ht, hve⟩ := Q.2.2.1
  obtain ⟨cy, f1, f2⟩ : ∃ cy, ArrOfT s cy .int ∧ s.vm.findClass (FieldType.array .int).toString = some cy := by
    obtain ⟨cA, kA, comp, hfind, hk, hkind⟩ := Cond.arrayClass_spec (C.2.2.2.2.1 _ hw.2)
    exact ⟨cA, fun N z => ⟨(fun k h => by cases h), kA, hk, comp, hkind⟩, hfind⟩
  refine va_mna (X := xv_w ad cA h n) (L := []) (f := fun _ => .inr (0, [])) (z := (K, .inl (fun _ => 0))) C.1 C.2.1 C.2.2.2.1 (C.2.2.2.2.1 _ hw.1) (C.2.2.2.2.2.2.2.2.1.2.2 _ hov) (C.2.2.2.2.1 _ hw.2) f2 C.2.2.2.2.2.2.1 (by rw [show va_pl [] (fun _ => (.inr (0, []) : va_E)) = [] from rfl, List.append_nil]; exact hP) (by rw [show va_pl [] (fun _ => (.inr (0, []) : va_E)) = [] from rfl, List.append_nil]; exact hD) Q.2.2.2.1 C.2.2.2.2.2.2.2.1 hn0 hk0 hN hK' hb1 hb2 hb3 rfl rfl hcl hsl (fun cc => by show ({ cls := cc, slots := Array.replicate K (defaultValue .int), vm := .none } : Cell) = arrV cc K (fun _ => .int 0); rw [← arrV_new]; rfl) hd fun qa r cO H1 hr hr2 hK1 hP1 hD1 hS1 => ?_
  have hcO : ArrOfT s cO (.array .int) ∧ va_RA s cO (.array .int) := hK1.2 0 _ rfl
  rw [xv_mlist hve hn] at hP1 hD1
  have hx : ∀ i, i < n ∨ 1000 ≤ i → xv_ma ad n N qa r i = ad i := fun i hi => by
    unfold xv_ma
    rw [if_neg (by omega), if_neg (by omega)]
  have hW : xv_W D A (xv_ma ad n N qa r) (xv_mh h n N K) (n + 1 + N) s H1 := by
    refine ⟨hn, _, hP1, hD1, fun i hi ty x he => ?_, fun i hi => ?_⟩
    · show ArrOfT s (if i = n then cO else if n < i then cy else cA i) ty ∧ va_RA s (if i = n then cO else if n < i then cy else cA i) ty
      unfold xv_mh at he
      by_cases h1 : i = n
      · rw [if_pos h1] at he ⊢
        cases he
        exact hcO
      · rw [if_neg h1] at he ⊢
        by_cases h2 : n < i
        · rw [if_pos (by omega)] at he
          rw [if_pos h2]
          cases he
          exact ⟨f1, f2⟩
        · rw [if_neg (by omega)] at he
          rw [if_neg h2]
          exact ht i (by omega) ty x he
    · unfold xv_mh
      by_cases h1 : i = n
      · rw [if_pos h1]
        intro k b hb
        have hb : (if k < N then some (n + 1 + k) else none) = some b := hb
        by_cases hk : k < N
        · rw [if_pos hk] at hb
          cases hb
          left
          omega
        · rw [if_neg hk] at hb
          cases hb
      · rw [if_neg h1]
        by_cases h2 : n < i
        · rw [if_pos (by omega)]
          trivial
        · rw [if_neg (by omega)]
          exact xv_vemono (by omega) (hve i (by omega))
  have hk := kk p l e s m args below meth c D A ad0 n0 Qf C _ H1 locs ls (xv_Qnew Q (by omega) hx hW hS1 (xv_cons (Or.inl (show n < n + 1 + N by omega)) (fun w hw => xv_vmono (by omega) (xv_tl (xv_tl Q.2.2.2.2.2.2) w hw))))
  rw [List.map_cons, xv_srext hx (xv_tl (xv_tl Q.2.2.2.2.2.2)), show xv_r (xv_ma ad n N qa r) (.ref n) = .ref qa from congrArg Value.ref (by unfold xv_ma; rw [if_pos rfl])] at hk
  exact hk
end XM
