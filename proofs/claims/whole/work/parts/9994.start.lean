/-! THE CLAIM OUT OF ONE WALK OF THE LAW'S BODY. Your part is whole_start (and what it stands on); all else here is the same for every law, but numbers. -/
def R_law : String := "ValveShopLaw"
def lw_P (b : Addr) (xs : List Int32) (args : Array Value) (s : State) : Prop := args = #[.ref b] ∧ s.IntsAt b xs ∧ xs.length ≤ 3584 ∧ (Jvm.Cond.and given_1 narrow_1).before args s = true
def lw_Q (_ : Array Value) (s : State) (o : Outcome) (t : State) : Prop := o = .returned (some (.int 1)) ∧ Framed s o t [] 600000 7302250
def lw_Z (below : List Frame) (a : Array Value) (s : State) : State → Prop := fun t => ∃ o, t.status = .running ∧ Ended t below o ∧ lw_Q a s o t
/-- the law's own end, with 1 on the stack, nothing written that was there before, its room as the claim has it -/
theorem lw_ret {p : Program} {l : Launch} {e : Env} {s : State} {m : MethodId} {below : List Frame} {meth : Method} {c : Code} {b : Nat} (hx : p.tables.exec = Jvm.exec) (hb : c.code = code) (hr : meth.sig.returnType = ret) (hlocks : meth.locks = false) {pc : Nat} {H : Heap} {ls : Array Slot} (hdg : decode code pc = .ok (.ireturn, 1)) : W p l e room_1 s m #[Value.ref b] below meth c H [] 600000 7302250 (lw_Z below #[Value.ref b] s) (F0 m pc ls [.int 1]) := by
  intro T hT X
  obtain ⟨fs, hret, hrun, hended, hW, hframe⟩ := X.leave (v := some (.int 1)) (hlocks := hlocks) (fun h => by rw [hr] at h; cases h)
  have hmeth' : T.vm.method? m = some meth := X.method'
  refine ⟨T.setFrames fs, ?_, .returned (some (.int 1)), hrun, hended, rfl, ⟨_, rfl⟩, hW, hframe⟩
  jvm_step X.here [X.here.top, hx, hb, hdg, hmeth', hr, ret, narrow_b1]
  (try refine ⟨rfl, ?_⟩); (try refine ⟨rfl, ?_⟩)
  first | (intro acts; rw [hret _ acts rfl rfl rfl]) | rw [hret _ _ rfl rfl rfl]
  exact Steps.refl _
/-- what holds at the law's entry: the machine, the code, the tables' words (any of lw_tbl by 'hts w (by decide +kernel)'), the script of L ints xs at the cell b, what the Statement gives of the start (any of its parts by flat_of_before) -/
def lw_At (p : Program) (s : State) (m : MethodId) (meth : Method) (c : Code) (b L : Nat) (xs : Nat → Int32) : Prop :=
  p.tables.exec = Jvm.exec ∧ c.code = code ∧ meth.sig.returnType = ret ∧ c.maxLocals = 4 ∧ s.vm.findClass R_law = some m.cls ∧ (∀ w ∈ lw_tbl, w.before #[Value.ref b] s = true) ∧ va_X b L xs s s.heap ∧ b < s.heap.size ∧ meth.locks = false ∧ (Jvm.Cond.and given_1 narrow_1).before #[Value.ref b] s = true
theorem xl_mem : ∀ q ∈ xv_rf, Cond.arrayOf (.static "ValveShop" q.1 "[I") .int ∈ flatC (Jvm.Cond.and given_1 narrow_1) ∧ Cond.eq (.length (.static "ValveShop" q.1 "[I")) (.int (Int32.ofNat q.2.length)) ∈ flatC (Jvm.Cond.and given_1 narrow_1) ∧ ∀ j, j < q.2.length → Cond.eq (.elem (.static "ValveShop" q.1 "[I") (.int (Int32.ofNat j))) (.int (q.2.getD j 0)) ∈ flatC (Jvm.Cond.and given_1 narrow_1) := by decide +kernel
theorem xl_lays : ∀ q ∈ xv_rf, Cond.laysStatic "ValveShop" q.1 "[I" ∈ lw_tbl := by decide +kernel
theorem xl_len : ∀ q ∈ xv_rf, q.2.length < 2 ^ 31 := by decide +kernel
theorem xl_stat {s : State} {b : Nat} (hgv : (Jvm.Cond.and given_1 narrow_1).before #[Value.ref b] s = true) (hts : ∀ w ∈ lw_tbl, w.before #[Value.ref b] s = true) : ∀ q ∈ xv_rf, ∃ t : Nat, va_Z "ValveShop" q.1 "[I" (.ref t) (fun z => s.heap.size ≤ z) s s.heap ∧ va_T .int t q.2.length (fun k => .int (q.2.getD k 0)) (fun z => s.heap.size ≤ z) s s.heap := by
  intro q hq
  have hs := flat_of_before _ hgv
  obtain ⟨h1, h2, h3⟩ := xl_mem q hq
  have hA : ∀ a : Nat, a < s.heap.size → ¬ (fun z => s.heap.size ≤ z) a := fun a h => Nat.not_le.mpr h
  obtain ⟨t, ht, hT⟩ := va_Tof (f := fun k => .int (q.2.getD k 0)) (xl_len q hq) (hs _ h1) (va_eqt (hs _ h2)) (fun j hj => va_eqt (hs _ (h3 j hj))) hA
  exact ⟨t, va_Zref (hts _ (xl_lays q hq)) (hts _ (show Cond.initialized "ValveShop" ∈ lw_tbl from (List.mem_filter.mp nw_L_7.2.2).1)) ht hA, hT⟩
theorem xl_nw {s : State} {b : Nat} (hts : ∀ w ∈ lw_tbl, w.before #[Value.ref b] s = true) : ∀ w ∈ xv_nw, va_Nw w s := by
  intro w hw
  have h0 := hts w (List.mem_filter.mp hw).1
  have h1 := (List.mem_filter.mp hw).2
  match w, h0, h1 with
  | .methodLinkNest _ _ _ _, h0, _ => exact va_tabs rfl rfl h0
  | .fieldLinkNest _ _ _ _ _ _, h0, _ => exact va_tabs rfl rfl h0
  | .arrayOver _, h0, _ =>
    unfold va_Nw Cond.before Cond.holds at *
    simp only [Cond.value] at *
    exact h0
set_option maxHeartbeats 4000000 in
set_option maxRecDepth 100000 in
/-- THE LAW, from its entry -/
theorem whole_start {p : Program} {e : Env} {s : State} {m : MethodId} {below : List Frame} {meth : Method} {c : Code} (l : Launch) (hflags : l.flags = flags0) {b L : Nat} {xs : Nat → Int32} (hL : L ≤ 3584) (C0 : lw_At p s m meth c b L xs) : W p l e room_1 s m #[Value.ref b] below meth c s.heap [] 0 0 (lw_Z below #[Value.ref b] s) (entryFrame m ([Value.ref b] : List Value).toArray 4) := by
  obtain ⟨hx, hb, hr, hml, hown, hts, hX, hbl, hlocks, hgv⟩ := id C0
  have htg : ∀ w ∈ xv_g, w.before #[Value.ref b] s = true := fun w hw => hts w (List.mem_filter.mp hw).1
  obtain ⟨c0, i0, kn0⟩ := u_known (C := RX0) (T := TX0) (N := 3) (n := 3) htg cw_X0 (htg _ nw_X8_15.2.1)
  obtain ⟨c1, i1, kn1⟩ := u_known (C := RX1) (T := TX1) (N := 6) (n := 6) htg cw_X1 (htg _ nw_X8_65.2.1)
  obtain ⟨c2, i2, kn2⟩ := u_known (C := RX2) (T := TX2) (N := 4) (n := 4) htg cw_X2 (htg _ nw_X8_21.2.1)
  obtain ⟨c3, i3, kn3⟩ := u_known (C := RX3) (T := TX3) (N := 4) (n := 4) htg cw_X3 (htg _ nw_X8_37.2.1)
  obtain ⟨c4, i4, kn4⟩ := u_known (C := RX4) (T := TX4) (N := 3) (n := 3) htg cw_X4 (htg _ nw_X8_51.2.1)
  obtain ⟨c5, i5, kn5⟩ := u_known (C := RX5) (T := TX5) (N := 7) (n := 7) htg cw_X5 (htg _ nw_X8_44.2.1)
  obtain ⟨c6, i6, kn6⟩ := u_known (C := RX6) (T := TX6) (N := 7) (n := 7) htg cw_X6 (htg _ nw_X8_58.2.1)
  obtain ⟨c7, i7, kn7⟩ := u_known (C := RX7) (T := TX7) (N := 4) (n := 4) htg cw_X7 (htg _ nw_X8_9.2.1)
  obtain ⟨c8, i8, kn8⟩ := u_known (C := RX8) (T := TX8) (N := 13) (n := 13) htg cw_X8 (htg _ nw_L_7.2.1)
  obtain ⟨c9, i9, kn9⟩ := u_known (C := RX9) (T := TX9) (N := 33) (n := 33) htg cw_X9 (htg _ nw_L_10.2.1)
  obtain ⟨dC, dI, hKc⟩ : ∃ (dC : Nat → ClassId) (dI : Nat → Nat → Nat), ∀ (k : Nat) (q : vw_C), xv_cl[k]? = some q → u_Kn s q.1 q.2.1 q.2.2 (dC k) (dI k) := by
    refine ⟨fun k => if k = 0 then c0 else if k = 1 then c1 else if k = 2 then c2 else if k = 3 then c3 else if k = 4 then c4 else if k = 5 then c5 else if k = 6 then c6 else if k = 7 then c7 else if k = 8 then c8 else c9, fun k => if k = 0 then i0 else if k = 1 then i1 else if k = 2 then i2 else if k = 3 then i3 else if k = 4 then i4 else if k = 5 then i5 else if k = 6 then i6 else if k = 7 then i7 else if k = 8 then i8 else i9, ?_⟩
    intro k q hq
    match k, hq with
    | 0, hq => cases hq; exact kn0
    | 1, hq => cases hq; exact kn1
    | 2, hq => cases hq; exact kn2
    | 3, hq => cases hq; exact kn3
    | 4, hq => cases hq; exact kn4
    | 5, hq => cases hq; exact kn5
    | 6, hq => cases hq; exact kn6
    | 7, hq => cases hq; exact kn7
    | 8, hq => cases hq; exact kn8
    | 9, hq => cases hq; exact kn9
    | k + 10, hq => simp [xv_cl] at hq
  have hK : va_K (dC, dI) xv_cl [] s := ⟨hKc, fun k q h => by simp at h⟩
  obtain ⟨T, hT⟩ : ∃ T : Nat → Nat, ∀ j q, xv_rf[j]? = some q → va_Z "ValveShop" q.1 "[I" (.ref (T j)) (fun z => s.heap.size ≤ z) s s.heap ∧ va_T .int (T j) q.2.length (fun k => .int (q.2.getD k 0)) (fun z => s.heap.size ≤ z) s s.heap := by
    have h2 : ∀ j : Nat, ∃ t : Nat, ∀ q, xv_rf[j]? = some q → va_Z "ValveShop" q.1 "[I" (.ref t) (fun z => s.heap.size ≤ z) s s.heap ∧ va_T .int t q.2.length (fun k => .int (q.2.getD k 0)) (fun z => s.heap.size ≤ z) s s.heap := fun j => by
      cases hq : xv_rf[j]? with
      | none => exact ⟨0, fun q h => by cases h⟩
      | some q =>
        obtain ⟨t, ht⟩ := xl_stat hgv hts q (List.mem_of_getElem? hq)
        exact ⟨t, fun q' h => by cases h; exact ht⟩
    exact ⟨fun j => (h2 j).choose, fun j => (h2 j).choose_spec⟩
  obtain ⟨ad0, had⟩ : ∃ ad0 : Nat → Nat, ad0 = fun i => if i = 1006 then b else T (i - 1000) := ⟨_, rfl⟩
  have hadb : ad0 1006 = b := by rw [had]; exact if_pos rfl
  have hadT : ∀ j, j ≠ 6 → ad0 (1000 + j) = T j := fun j hj => by
    rw [had]
    show (if 1000 + j = 1006 then b else T (1000 + j - 1000)) = T j
    rw [if_neg (by omega), show 1000 + j - 1000 = j by omega]
  have hR : xv_R (L, xs) (fun z => s.heap.size ≤ z) ad0 s s.heap := by
    refine ⟨fun j q hq => ?_, fun j q hq => ?_, xl_nw hts⟩
    · by_cases hj : j = 6
      · subst hj
        have hq2 : some ((L, xs) : Nat × (Nat → Int32)) = some q := hq
        cases hq2
        obtain ⟨scr, g1, g2, g3, g4, g5⟩ := hX
        exact ⟨scr, by rw [show (1000 + 6) = 1006 from rfl, hadb]; exact g1, g2, g3, by rw [g4]; exact Nat.le_refl _, by rw [g4], g5, by rw [show (1000 + 6) = 1006 from rfl, hadb]; exact Nat.not_le.mpr hbl⟩
      · unfold xv_ro at hq
        rw [if_neg hj] at hq
        obtain ⟨q0, hq0, rfl⟩ := Option.map_eq_some_iff.mp hq
        rw [hadT j hj]
        exact (hT j q0 hq0).2
    · have hj : j < 6 := (List.getElem?_eq_some_iff.mp hq).1
      rw [hadT j (by omega)]
      exact (hT j q hq).1
  have hl := lv_entry ([.ref b]) (n := 4) (Nat.le_of_ble_eq_true rfl)
  rw [lg_entry_eq]
  generalize (lg_sl ([.ref b]) ++ List.replicate (4 - (lg_sl ([.ref b])).length) Slot.unset).toArray = ls at hl ⊢
  have hl : lv_has ls 4 [(0, .ref b)] := hl
  rw [← hadb] at hl
  refine xl_body (xs := xs) hL (fun _ => .inr (0, [])) p l e s m #[Value.ref b] below meth c (dC, dI) (fun z => s.heap.size ≤ z) ad0 0 (lw_Z below #[Value.ref b] s) ⟨hx, hb, hml, hown, htg, fun h => absurd h (by decide), hK, fun _ h => h, hR, ?_⟩ ad0 s.heap [] ls ⟨Nat.le_refl _, fun _ _ => rfl, ⟨Nat.zero_le _, fun _ => m.cls, fun k q h => by simp [xv_w] at h, ⟨fun i j p q h => by simp [xv_w] at h, fun k q h => by simp [xv_w] at h⟩, fun i hi => absurd hi (by omega), fun i hi => absurd hi (by omega)⟩, va_S.rf, hl, fun q hq => ?_, fun v hv => by cases hv⟩
  · intro v ad1 H locs cells slots ls1 pc h1 n1 hret hn1 hext hcl hsl hW1 hvv hS1 hpost
    have ev : v = some (.int 1) := hpost
    subst ev
    obtain ⟨ty, hr1, hr2, hdg⟩ := hret
    exact va_forget hS1.2.2 (W.widen hcl hsl (lw_ret hx hb hr hlocks hdg))
  · rw [List.mem_singleton.mp hq]
    show (1006 : Nat) < 0 ∨ (1000 : Nat) ≤ 1006
    exact Or.inr (by omega)
