theorem xn_okA {f : Nat → Int32} (ok : xs_ok f) : ∀ t, t < 11 → xs_isNb (nI t) (f t) = true
  | 0, _ => (xn_isnb0 (f 0)).mp (by rw [xn_eq, xn_le, xn_le]; exact ok.1)
  | 1, _ => (xn_isnb1 (f 1)).mp (by rw [xn_le, xn_le]; exact ok.2.1)
  | 2, _ => (xn_isnb2 (f 2)).mp (by rw [xn_le, xn_le]; exact ok.2.2.1)
  | 3, _ => (xn_isnb3 (f 3)).mp (by rw [xn_le, xn_le]; exact ok.2.2.2.1)
  | 4, _ => (xn_isnb4 (f 4)).mp (by rw [xn_le, xn_le]; exact ok.2.2.2.2.1)
  | 5, _ => (xn_isnb5 (f 5)).mp (by rw [xn_le, xn_le]; exact ok.2.2.2.2.2.1)
  | 6, _ => (xn_isnb6 (f 6)).mp (by rw [xn_le, xn_le]; exact ok.2.2.2.2.2.2.1)
  | 7, _ => (xn_isnb7 (f 7)).mp (by rw [xn_le, xn_le]; exact ok.2.2.2.2.2.2.2.1)
  | 8, _ => (xn_isnb8 (f 8)).mp (by rw [xn_le, xn_le]; exact ok.2.2.2.2.2.2.2.2.1)
  | 9, _ => (xn_isnb9 (f 9)).mp (by rw [xn_le, xn_le]; exact ok.2.2.2.2.2.2.2.2.2.1)
  | 10, _ => (xn_isnb10 (f 10)).mp (by rw [xn_le, xn_le]; exact ok.2.2.2.2.2.2.2.2.2.2)
  | t + 11, h => absurd h (by omega)
theorem xn_okB {f : Nat → Int32} (h : ∀ t, t < 11 → xs_isNb (nI t) (f t) = true) : xs_ok f := by
  have q0 := (xn_isnb0 (f 0)).mpr (h 0 (by omega))
  rw [xn_eq, xn_le, xn_le] at q0
  have q1 := (xn_isnb1 (f 1)).mpr (h 1 (by omega))
  rw [xn_le, xn_le] at q1
  have q2 := (xn_isnb2 (f 2)).mpr (h 2 (by omega))
  rw [xn_le, xn_le] at q2
  have q3 := (xn_isnb3 (f 3)).mpr (h 3 (by omega))
  rw [xn_le, xn_le] at q3
  have q4 := (xn_isnb4 (f 4)).mpr (h 4 (by omega))
  rw [xn_le, xn_le] at q4
  have q5 := (xn_isnb5 (f 5)).mpr (h 5 (by omega))
  rw [xn_le, xn_le] at q5
  have q6 := (xn_isnb6 (f 6)).mpr (h 6 (by omega))
  rw [xn_le, xn_le] at q6
  have q7 := (xn_isnb7 (f 7)).mpr (h 7 (by omega))
  rw [xn_le, xn_le] at q7
  have q8 := (xn_isnb8 (f 8)).mpr (h 8 (by omega))
  rw [xn_le, xn_le] at q8
  have q9 := (xn_isnb9 (f 9)).mpr (h 9 (by omega))
  rw [xn_le, xn_le] at q9
  have q10 := (xn_isnb10 (f 10)).mpr (h 10 (by omega))
  rw [xn_le, xn_le] at q10
  exact ⟨q0, q1, q2, q3, q4, q5, q6, q7, q8, q9, q10⟩
theorem xn_sinR {U : Int32 → Int32 → Int32} {a : Int32} {t : Int32 × Int32 × Int32} (ha : 0 ≤ a.toInt ∧ a.toInt ≤ 11) (ht : (0 ≤ t.2.1.toInt ∧ t.2.1.toInt ≤ 11) ∧ -20 ≤ t.2.2.toInt ∧ t.2.2.toInt ≤ 20) : ∀ j, j ≤ 41 → (0 ≤ (xs_sin U a j t).2.1.toInt ∧ (xs_sin U a j t).2.1.toInt ≤ 11) ∧ -20 ≤ (xs_sin U a j t).2.2.toInt ∧ (xs_sin U a j t).2.2.toInt ≤ 20
  | 0, _ => ht
  | j + 1, hj => by
    show (0 ≤ (xs_sst U a (nI j - 20) (xs_sin U a j t)).2.1.toInt ∧ (xs_sst U a (nI j - 20) (xs_sin U a j t)).2.1.toInt ≤ 11) ∧ -20 ≤ (xs_sst U a (nI j - 20) (xs_sin U a j t)).2.2.toInt ∧ (xs_sst U a (nI j - 20) (xs_sin U a j t)).2.2.toInt ≤ 20
    unfold xs_sst
    split
    · refine ⟨ha, ?_⟩
      show -20 ≤ (nI j - 20).toInt ∧ (nI j - 20).toInt ≤ 20
      rw [xn_hj j (by omega)]
      omega
    · exact xn_sinR ha ht j (by omega)
theorem xn_souR {U : Int32 → Int32 → Int32} : ∀ i, i ≤ 12 → (0 ≤ (xs_sou U i).2.1.toInt ∧ (xs_sou U i).2.1.toInt ≤ 11) ∧ -20 ≤ (xs_sou U i).2.2.toInt ∧ (xs_sou U i).2.2.toInt ≤ 20
  | 0, _ => by
    show (0 ≤ (0 : Int32).toInt ∧ (0 : Int32).toInt ≤ 11) ∧ -20 ≤ (0 : Int32).toInt ∧ (0 : Int32).toInt ≤ 20
    decide
  | i + 1, hi => by
    have e : xs_sou U (i + 1) = xs_sin U (nI i) 41 (xs_sou U i) := rfl
    rw [e]
    exact xn_sinR (a := nI i) (by rw [xn_NI (by omega)]; omega) (xn_souR i (by omega)) 41 (by omega)
section
variable {σ : xs_Sg}
theorem xq_piston (H : xs_VV σ) (p k : Int32) : xs_VV (xs_piston σ p k).2 := xs_VonE H fun _ _ _ _ => xs_Vfd H
theorem xq_valve (H : xs_VV σ) (p m k : Int32) : xs_VV (xs_valve σ p m k).2 := xs_VonE H fun _ _ _ _ => xs_Vfd H
theorem xq_open (H : xs_VV σ) (p m d k w : Int32) : xs_VV (xs_open σ p m d k w).2 := xs_VonE H fun _ _ _ _ => xs_Vfd H
theorem xq_event (H : xs_VV σ) (p m d w : Int32) : xs_VV (xs_event σ p m d w).2 := xs_VonE H fun _ _ _ _ => xs_Vfd H
theorem xq_valves (H : xs_VV σ) (p w : Int32) : xs_VV (xs_valves σ p w).2 := xs_VonE H fun _ _ _ _ => xs_Vfd H
theorem xq_number (H : xs_VV σ) (p w : Int32) : xs_VV (xs_number σ p w).2 := xs_VonE H fun _ _ _ _ => xs_Vfd H
theorem xq_setting (H : xs_VV σ) (p w : Int32) : xs_VV (xs_setting σ p w).2 := xs_VonE H fun _ _ _ _ => xs_Vfd H
theorem xq_card (H : xs_VV σ) (p m b g d k : Int32) : xs_VV (xs_card σ p m b g d k).2 := xs_VonE H fun _ _ _ _ => xs_Vfd H
theorem xq_look (H : xs_VV σ) (p m b g d w : Int32) : xs_VV (xs_look σ p m b g d w).2 := xs_VonE H fun _ _ _ _ => xs_Vfd H
theorem xq_work (H : xs_VV σ) (p m b g w : Int32) : xs_VV (xs_work σ p m b g w).2 := xs_VonE H fun _ _ _ _ => xs_Vfd H
theorem xq_kind (H : xs_VV σ) (p : Int32) : xs_VV (xs_kind σ p).2 := xs_VonE H fun _ _ _ _ => xs_Vfd H
theorem xq_asK (H : xs_VV σ) (p w : Int32) : xs_VV (xs_asK σ p w).2 := xs_VonE H fun _ _ _ _ => by
  split <;> exact xs_Vfd H
theorem xq_sicken (H : xs_VV σ) (p s : Int32) : xs_VV (xs_sicken σ p s).2 := xs_VonE H fun j hj h0 hg => xs_Vfd (xs_Ven H (H.1.1.2.2.1 j hj) h0 ⟨(H.1.1.2.2.2.1 j hj h0).1, by have z := xn_gI hg; exact z⟩)
theorem xq_adjust (H : xs_VV σ) (p w v : Int32) : xs_VV (xs_adjust σ p w v).2 := xs_VonE H fun j hj h0 hg => xs_Vfd (xs_Ven H (H.1.1.2.2.1 j hj) h0 ⟨xn_okB (fun t ht => by
    have hw := xn_nbI hg
    by_cases e : t = w.toNatClampNeg
    · rw [e, pk_us, ← xn_ofI (x := w) (by exact hw.1)]
      exact hg
    · rw [pk_un e]
      exact xn_okA (H.1.1.2.2.2.1 j hj h0).1 t ht), (H.1.1.2.2.2.1 j hj h0).2⟩)
theorem xq_tune (H : xs_VV σ) (p : Int32) : xs_VV (xs_tune σ p).2 := xs_VonE H fun j hj h0 _ => xs_Vfd (xs_Ven H (H.1.1.2.2.1 j hj) h0 ⟨by
    have ok := (H.1.1.2.2.2.1 j hj h0).1
    obtain ⟨R, hR⟩ : ∃ R, R = xs_set (σ 4 j) (σ 5 j 0) := ⟨_, rfl⟩
    have z : (0 ≤ R.2.1.toInt ∧ R.2.1.toInt ≤ 11) ∧ -20 ≤ R.2.2.toInt ∧ R.2.2.toInt ≤ 20 := by
      rw [hR]
      unfold xs_set
      exact xn_souR 12 (by omega)
    rw [← hR]
    exact ⟨ok.1, ok.2.1, z.1, z.2, ok.2.2.2.2⟩, (H.1.1.2.2.2.1 j hj h0).2⟩)
theorem xq_set1 (H : xs_VV σ) (s i v : Int32) : xs_VV (xs_set1 σ s i v).2 := xs_VonP H fun j hj h0 _ => by
  split
  · exact xs_Vfd (xs_Vsh H (H.1.1.1 j hj) (H.1.1.2.1 j hj))
  · exact xs_Vfd H
theorem xq_drop (H : xs_VV σ) (s : Int32) : xs_VV (xs_drop σ s).2 := xs_VonP H fun j hj h0 _ => xs_Vfd (xs_Vsh H (Or.inl rfl) (fun z => absurd rfl z))
theorem xq_sheet (H : xs_VV σ) (s l z : Int32) : xs_VV (xs_sheet σ s l z).2 := by
  unfold xs_sheet
  split
  · rename_i h
    rw [Bool.and_eq_true, Bool.and_eq_true, decide_eq_true_eq] at h
    split
    · rename_i h2
      rw [xn_le] at h2
      have h3 := h.2.2
      rw [xn_le] at h3
      exact xs_Vfd (xs_Vsh H (Or.inr rfl) (fun _ => ⟨⟨h2, h3⟩, xn_g02 h.2.1⟩))
    · exact xs_Vfd H
  · exact H
theorem xq_copy (H : xs_VV σ) (a i b j k : Int32) : xs_VV (xs_copy σ a i b j k).2 := by
  unfold xs_copy
  split
  · rename_i h
    rw [Bool.and_eq_true] at h
    have hb := xn_cl6 (m := 7) (by omega) h.2
    repeat' split
    all_goals first | exact xs_Vfd H | exact xs_Vfd (xs_Vsh H (H.1.1.1 _ (by omega)) (H.1.1.2.1 _ (by omega)))
  · exact H
theorem xq_twin (H : xs_VV σ) (q p : Int32) : xs_VV (xs_twin σ q p).2 := by
  unfold xs_twin
  split
  · rename_i h
    rw [Bool.and_eq_true] at h
    have hp := xn_cl6 (m := 5) (by omega) h.2
    split
    · exact xs_Vfd H
    · rename_i h2
      exact xs_Vfd (xs_Vec H (Or.inr rfl) (fun _ => H.1.1.2.2.2.1 _ (by omega) h2))
  · exact H
theorem xq_clear (H : xs_VV σ) (p : Int32) : xs_VV (xs_clear σ p).2 := by
  unfold xs_clear
  split
  · split
    · exact H
    · exact xs_Vec H (Or.inl rfl) (fun z => absurd rfl z)
  · exact H
theorem xq_engine (H : xs_VV σ) (p s i : Int32) : xs_VV (xs_engine σ p s i).2 := by
  unfold xs_engine
  split
  · split
    · exact xs_Vfd H
    · split
      · split
        · rename_i h
          exact xs_Vfd (xs_Vec H (Or.inr rfl) (fun _ => ⟨xn_okB (fun t ht => xn_allI h t ht), by decide, by decide⟩))
        · exact H
      · exact xs_Vfd H
  · exact H
theorem xq_find1 (H : xs_VV σ) (p m b s i : Int32) : xs_VV (xs_find1 σ p m b s i).2 := by
  unfold xs_find1
  split
  · rename_i h
    rw [Bool.and_eq_true, Bool.and_eq_true, Bool.and_eq_true] at h
    split
    · exact xs_Vfd H
    · split
      · exact xs_Vfd H
      · rename_i h6
        split
        · split
          · rename_i ha
            exact xs_Vfd (xs_Vca H ⟨h6, by have z := xn_gI h.2.1; exact z, by have z := xn_gI h.2.2.1; exact z, fun k hk => by
              have z := xn_allI ha k hk
              rw [Bool.and_eq_true, decide_eq_true_eq, decide_eq_true_eq, xn_le, xn_le] at z
              exact z⟩)
          · exact H
        · exact xs_Vfd H
  · exact H
theorem xq_is (H : xs_VV σ) (p w : Int32) : xs_VV (xs_is σ p w).2 := by
  unfold xs_is
  repeat' split
  all_goals first | exact H | exact xs_Vfd H
theorem xq_misfit (H : xs_VV σ) (p s : Int32) : xs_VV (xs_misfit σ p s).2 := by
  unfold xs_misfit
  repeat' split
  all_goals first | exact H | exact xs_Vfd H
theorem xq_named (H : xs_VV σ) (p w q : Int32) : xs_VV (xs_named σ p w q).2 := by
  unfold xs_named
  repeat' split
  all_goals first | exact H | exact xs_Vfd H
theorem xq_whose (H : xs_VV σ) (s i b w : Int32) : xs_VV (xs_whose σ s i b w).2 := by
  unfold xs_whose
  repeat' split
  all_goals first | exact H | exact xs_Vfd H
theorem xq_next (H : xs_VV σ) (p one two b : Int32) : xs_VV (xs_next σ p one two b).2 := by
  unfold xs_next
  repeat' split
  all_goals first | exact H | exact xs_Vfd H
theorem xq_run (H : xs_VV σ) (p b w s i q : Int32) : xs_VV (xs_run σ p b w s i q).2 := by
  unfold xs_run
  split
  · rename_i h
    rw [Bool.and_eq_true, Bool.and_eq_true, Bool.and_eq_true, Bool.and_eq_true] at h
    have hq : q.toNatClampNeg ≤ 10 := by
      have z : q.toInt ≤ 10 := (xn_gI h.2.2.2.2).2
      show q.toInt.toNat ≤ 10
      omega
    split
    · exact xs_Vfd H
    · split
      · exact xs_Vfd H
      · split
        · split
          · unfold xs_rno
            generalize xs_bc _ _ _ _ _ = o
            generalize xs_kk _ _ _ _ _ _ = ke
            cases o with
            | none => exact xs_Vfd H
            | some v => exact xs_Vfd (xs_Vpl H hq)
          · exact H
        · exact xs_Vfd H
  · exact H
theorem xq_trace (H : xs_VV σ) (i : Int32) : xs_VV (xs_trace σ i).2 := H
theorem xq_plan (H : xs_VV σ) (i w : Int32) : xs_VV (xs_plan σ i w).2 := H
theorem xq_fire (H : xs_VV σ) (w : Int32) : xs_VV (xs_fire σ w).2 := H
theorem xq_status (H : xs_VV σ) : xs_VV (xs_status σ).2 := H
theorem xq_count (H : xs_VV σ) (w : Int32) : xs_VV (xs_count σ w).2 := H
theorem xq_stoke (H : xs_VV σ) (c : Int32) : xs_VV (xs_stoke σ c).2 := by
  unfold xs_stoke
  split
  · rename_i h
    split
    · rename_i h2
      have hc := xn_gI h
      rw [show (1 : Int32).toInt = 1 from rfl, show (1000 : Int32).toInt = 1000 from rfl] at hc
      have h1 := H.1.2.2
      have h3 := H.2
      have e : (σ 13 0 1 + c).toInt = (σ 13 0 1).toInt + c.toInt := xn_add (by omega) (by omega)
      rw [xn_le, e, show (10000 : Int32).toInt = 10000 from rfl] at h2
      exact xs_Vfi H H.1.2.1 (by show 0 ≤ (σ 13 0 1 + c).toInt ∧ (σ 13 0 1 + c).toInt ≤ 10000; rw [e]; omega)
    · exact H
  · exact H
theorem xn_minI (x y : Int32) : (xs_min x y).toInt = if y.toInt < x.toInt then y.toInt else x.toInt := xn_min
theorem xn_maxI (x y : Int32) : (xs_max x y).toInt = if x.toInt < y.toInt then y.toInt else x.toInt := by
  unfold xs_max
  by_cases z : x < y
  · rw [if_pos z, if_pos ((xn_lt x y).mp z)]
  · rw [if_neg z, if_neg (fun w => z ((xn_lt x y).mpr w))]
theorem xq_minute (H : xs_VV σ) (p m g : Int32) : xs_VV (xs_minute σ p m g).2 := xs_VonE H fun j hj h0 hg => by
  rw [Bool.and_eq_true] at hg
  have hok := (H.1.1.2.2.2.1 j hj h0).1
  have hw := xn_d100 (xn_drkb (s := σ 5 j 0) (m := m) hok (xn_B (xn_burb H.1.2) (by have z := xn_gI hg.2; exact z)))
  obtain ⟨w, hw2⟩ : ∃ w, w = xs_drk (σ 4 j) (σ 5 j 0) m (xs_min (xs_bur (σ 13 0) 0) 2000 * g / 4) / 100 := ⟨_, rfl⟩
  have hF := H.1.2.1
  have hF1 := H.1.2.2
  have hF2 := H.2
  dsimp only
  rw [← hw2] at hw ⊢
  obtain ⟨F, hFe⟩ : ∃ F, F = σ 13 0 := ⟨_, rfl⟩
  rw [← hFe] at hF hF1 hF2 ⊢
  have b1 := xn_minI (F 1) 20
  rw [show (20 : Int32).toInt = 20 from rfl] at b1
  have bb : 0 ≤ (xs_min (F 1) 20).toInt ∧ (xs_min (F 1) 20).toInt ≤ 20 ∧ (xs_min (F 1) 20).toInt ≤ (F 1).toInt := by
    rw [b1]
    split <;> omega
  have e2 : (5 * xs_min (F 1) 20).toInt = 5 * (xs_min (F 1) 20).toInt := by
    rw [xn_mul] <;> rw [show (5 : Int32).toInt = 5 from rfl] <;> omega
  have e3 : (F 0 + 5 * xs_min (F 1) 20).toInt = (F 0).toInt + 5 * (xs_min (F 1) 20).toInt := by rw [xn_add (by rw [e2]; omega) (by rw [e2]; omega), e2]
  obtain ⟨G, hG⟩ : ∃ G, G = F 0 + 5 * xs_min (F 1) 20 := ⟨_, rfl⟩
  rw [← hG] at e3
  have b4 := xn_minI G w
  have b5 : 0 ≤ (xs_min G w).toInt ∧ (xs_min G w).toInt ≤ G.toInt := by
    rw [b4]
    split <;> omega
  have e6 : (G - xs_min G w).toInt = G.toInt - (xs_min G w).toInt := xn_sub (by omega) (by omega)
  obtain ⟨D, hD⟩ : ∃ D, D = G - xs_min G w := ⟨_, rfl⟩
  rw [← hD] at e6
  have e7 : (D - 1500).toInt = D.toInt - 1500 := xn_sub (by rw [show (1500 : Int32).toInt = 1500 from rfl]; omega) (by rw [show (1500 : Int32).toInt = 1500 from rfl]; omega)
  have b8 := xn_maxI 0 (D - 1500)
  rw [show (0 : Int32).toInt = 0 from rfl, e7] at b8
  have b9 : 0 ≤ (xs_max 0 (D - 1500)).toInt ∧ (xs_max 0 (D - 1500)).toInt ≤ D.toInt ∧ D.toInt - (xs_max 0 (D - 1500)).toInt ≤ 1500 := by
    rw [b8]
    split <;> omega
  have e9 : (D - xs_max 0 (D - 1500)).toInt = D.toInt - (xs_max 0 (D - 1500)).toInt := xn_sub (by omega) (by omega)
  have e10 : (F 1 - xs_min (F 1) 20).toInt = (F 1).toInt - (xs_min (F 1) 20).toInt := xn_sub (by omega) (by omega)
  refine xs_Vfd (xs_Vfi H ?_ ?_)
  · show 0 ≤ ((F 0 + 5 * xs_min (F 1) 20 - xs_min (F 0 + 5 * xs_min (F 1) 20) w) - xs_max 0 ((F 0 + 5 * xs_min (F 1) 20 - xs_min (F 0 + 5 * xs_min (F 1) 20) w) - 1500)).toInt ∧ ((F 0 + 5 * xs_min (F 1) 20 - xs_min (F 0 + 5 * xs_min (F 1) 20) w) - xs_max 0 ((F 0 + 5 * xs_min (F 1) 20 - xs_min (F 0 + 5 * xs_min (F 1) 20) w) - 1500)).toInt ≤ 1500
    rw [← hG, ← hD, e9]
    omega
  · show 0 ≤ (F 1 - xs_min (F 1) 20).toInt ∧ (F 1 - xs_min (F 1) 20).toInt ≤ 10000
    rw [e10]
    omega
theorem xq_ask (H : xs_VV σ) (p w : Int32) : xs_VV (xs_ask σ p w).2 := by
  unfold xs_ask
  split
  · have h0 : xs_VV (xs_tn σ 0) := xs_VVtn (N := 0) H (by omega)
    split
    · exact xs_Vfd h0
    · split
      · refine xs_Vfd (xs_VlvL h0 ?_)
        unfold xs_awl
        repeat' split
        all_goals decide
      · refine xs_Vfd (xs_VlvL h0 ?_)
        unfold xs_aml
        repeat' split
        all_goals decide
  · exact H
end
