/-- what is told of an engine hangs on its eleven numbers alone -/
def xs_ct (f : Nat → Int32) : Nat → Int32 := fun j => if j < 11 then f j else 0
theorem xs_cte {f g : Nat → Int32} (h : ∀ j, j < 11 → f j = g j) : xs_ct f = xs_ct g := by
  funext j
  unfold xs_ct
  by_cases z : j < 11
  · rw [if_pos z, if_pos z, h j z]
  · rw [if_neg z, if_neg z]
theorem xc_val (f : Nat → Int32) (s m k : Int32) : xs_val (xs_ct f) s m k = xs_val f s m k := rfl
theorem xc_by (f : Nat → Int32) (v d w : Int32) : xs_by (xs_ct f) v d w = xs_by f v d w := rfl
theorem xc_opn (f : Nat → Int32) (s m d k w : Int32) : xs_opn (xs_ct f) s m d k w = xs_opn f s m d k w := by
  unfold xs_opn
  rw [xc_val, xc_by]
theorem xc_rom (f : Nat → Int32) (d k : Int32) : xs_rom (xs_ct f) d k = xs_rom f d k := rfl
theorem xc_led (f : Nat → Int32) (s : Int32) : xs_led (xs_ct f) s = xs_led f s := by
  unfold xs_led
  rw [xc_opn]
theorem xc_evt (f : Nat → Int32) (s m d w : Int32) : xs_evt (xs_ct f) s m d w = xs_evt f s m d w := by
  have h : xs_eat (xs_ct f) s m d w = xs_eat f s m d w := by
    funext j
    unfold xs_eat xs_isop
    rw [xc_opn, xc_opn]
  unfold xs_evt
  rw [h]
theorem xc_unl (f : Nat → Int32) (s : Int32) : xs_unl (xs_ct f) s = xs_unl f s := by
  have h : (fun j => xs_un1 (xs_ct f) s (nI (j + 1))) = fun j => xs_un1 f s (nI (j + 1)) := by
    funext j
    unfold xs_un1
    rw [xc_evt, xc_evt]
  unfold xs_unl
  rw [h]
theorem xc_ag (f : Nat → Int32) (a g : Int32) : xs_ct (xs_ag (xs_ct f) a g) = xs_ct (xs_ag f a g) := xs_cte (fun j hj => by
  unfold xs_ag
  by_cases z3 : j = 3
  · rw [z3, pk_us, pk_us]
  · rw [pk_un z3, pk_un z3]
    by_cases z2 : j = 2
    · rw [z2, pk_us, pk_us]
    · rw [pk_un z2, pk_un z2]
      exact if_pos hj)
theorem xc_set (f : Nat → Int32) (s : Int32) : xs_set (xs_ct f) s = xs_set f s := by
  have h : (fun a g => xs_unl (xs_ag (xs_ct f) a g) s) = fun a g => xs_unl (xs_ag f a g) s := by
    funext a g
    rw [← xc_unl (xs_ag (xs_ct f) a g), ← xc_unl (xs_ag f a g), xc_ag]
  unfold xs_set
  rw [h]
theorem xc_co (f : Nat → Int32) (s m B d k v : Int32) : xs_co (xs_ct f) s m B d k v = xs_co f s m B d k v := by
  unfold xs_co xs_v1
  rw [xc_rom, xc_rom, xc_opn]
  rfl
theorem xc_v4 (f : Nat → Int32) (s m B d k v : Int32) : xs_v4 (xs_ct f) s m B d k v = xs_v4 f s m B d k v := by
  unfold xs_v4 xs_v3 xs_v2 xs_v1
  rw [xc_rom, xc_rom, xc_opn, xc_co]
  rfl
theorem xc_pr (f : Nat → Int32) (s m B d : Int32) : ∀ j, xs_pr (xs_ct f) s m B d j = xs_pr f s m B d j
  | 0 => rfl
  | j + 1 => by
    show xs_v4 (xs_ct f) s m B d (nI (j + 1)) (xs_pr (xs_ct f) s m B d j) = xs_v4 f s m B d (nI (j + 1)) (xs_pr f s m B d j)
    rw [xc_pr f s m B d j, xc_v4]
theorem xc_cd (f : Nat → Int32) (s m B d : Int32) (k : Nat) : xs_cd (xs_ct f) s m B d k = xs_cd f s m B d k := xc_pr f s m B d (96 + k)
theorem xc_cm (f : Nat → Int32) (s m B d : Int32) (k : Nat) : xs_cm (xs_ct f) s m B d k = xs_cm f s m B d k := by
  unfold xs_cm
  rw [xc_pr, xc_co]
theorem xc_dr (f : Nat → Int32) (s m B d : Int32) : xs_dr (xs_ct f) s m B d = xs_dr f s m B d := by
  have h : xs_dr1 (xs_ct f) s m B d = xs_dr1 f s m B d := by
    funext k
    unfold xs_dr1
    rw [xc_cm, xc_rom]
  unfold xs_dr
  rw [h]
theorem xc_drk (f : Nat → Int32) (s m B : Int32) : xs_drk (xs_ct f) s m B = xs_drk f s m B := by
  unfold xs_drk
  rw [xc_dr, xc_dr]
theorem xc_wrk (f : Nat → Int32) (s m B : Int32) : xs_wrk (xs_ct f) s m B = xs_wrk f s m B := by
  have h : ∀ d, xs_wk1 (xs_ct f) s m B d = xs_wk1 f s m B d := by
    intro d
    funext k
    unfold xs_wk1
    rw [xc_cd, xc_cd]
    rfl
  unfold xs_wrk
  rw [h, h]
theorem xc_mis (f ci : Nat → Int32) (m bo s : Int32) : xs_mis (xs_ct f) ci m bo s = xs_mis f ci m bo s := by
  have h : (fun k => xs_cd (xs_ct f) s m (bo * 4 / 4) 0 k) = fun k => xs_cd f s m (bo * 4 / 4) 0 k := by
    funext k
    rw [xc_cd]
  unfold xs_mis
  rw [h]
theorem xc_tk (f : Nat → Int32) (s : Int32) : xs_tk (xs_ct f) s = xs_tk f s := by
  unfold xs_tk
  rw [xc_unl, xc_wrk]
theorem xc_ok (f : Nat → Int32) : xs_ok (xs_ct f) ↔ xs_ok f := Iff.rfl
