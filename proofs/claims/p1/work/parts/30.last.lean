set_option maxHeartbeats 40000000 in
set_option maxRecDepth 100000 in
theorem whole_start {p : Program} {e : Env} {s : State} {m : MethodId} {below : List Frame} {meth : Method} {c : Code} (l : Launch) (hflags : l.flags = flags0) {sc L : Nat} {xs : Nat → Int32} (hL : L ≤ 6) (C0 : lw_At p s m meth c sc L xs) : W p l e room_1 s m #[Value.ref sc] below meth c s.heap [] 0 0 (lw_Z below #[Value.ref sc] s) (entryFrame m ([Value.ref sc] : List Value).toArray 4) := by
  obtain ⟨hx, hb, hr, hml, hown, hts0, hX, hbl, hlocks, -⟩ := id C0
  have hown : s.vm.findClass RL = some m.cls := hown
  have hts : ∀ w ∈ v_L_law, w.before #[Value.ref sc] s = true := fun w h => hts0 w (v_L_in w h)
  obtain ⟨A, hAe⟩ : ∃ A : Nat → Prop, A = fun q => s.heap.size ≤ q := ⟨_, rfl⟩
  have hA : ∀ q : Nat, s.heap.size ≤ q → A q := fun q h => by rw [hAe]; exact h
  have hbA : ¬ A sc := by
    rw [hAe]
    exact Nat.not_le.mpr hbl
  obtain ⟨c0, iS0, hKn0⟩ := u_known (C := RX0) (T := TX0) (N := 13) (n := 13) hts i_L_law_X0 (hts0 (.instantiable RX0 13) (List.mem_of_getElem? (i := 511) (by decide +kernel)))
  obtain ⟨c1, iS1, hKn1⟩ := u_known (C := RX1) (T := TX1) (N := 5) (n := 5) hts i_L_law_X1 (hts0 (.instantiable RX1 5) (List.mem_of_getElem? (i := 640) (by decide +kernel)))
  obtain ⟨c2, iS2, hKn2⟩ := u_known (C := RX2) (T := TX2) (N := 4) (n := 4) hts i_L_law_X2 (hts0 (.instantiable RX2 4) (List.mem_of_getElem? (i := 223) (by decide +kernel)))
  obtain ⟨c3, iS3, hKn3⟩ := u_known (C := RX3) (T := TX3) (N := 10) (n := 10) hts i_L_law_X3 (hts0 (.instantiable RX3 10) (List.mem_of_getElem? (i := 504) (by decide +kernel)))
  obtain ⟨c4, iS4, hKn4⟩ := u_known (C := RX4) (T := TX4) (N := 14) (n := 14) hts i_L_law_X4 (hts0 (.instantiable RX4 14) (List.mem_of_getElem? (i := 347) (by decide +kernel)))
  obtain ⟨c5, iS5, hKn5⟩ := u_known (C := RX5) (T := TX5) (N := 4) (n := 4) hts i_L_law_X5 (hts0 (.instantiable RX5 4) (List.mem_of_getElem? (i := 599) (by decide +kernel)))
  obtain ⟨c6, iS6, hKn6⟩ := u_known (C := RX6) (T := TX6) (N := 4) (n := 4) hts i_L_law_X6 (hts0 (.instantiable RX6 4) (List.mem_of_getElem? (i := 199) (by decide +kernel)))
  obtain ⟨c7, iS7, hKn7⟩ := u_known (C := RX7) (T := TX7) (N := 5) (n := 5) hts i_L_law_X7 (hts0 (.instantiable RX7 5) (List.mem_of_getElem? (i := 618) (by decide +kernel)))
  obtain ⟨c8, iS8, hKn8⟩ := u_known (C := RX8) (T := TX8) (N := 17) (n := 17) hts i_L_law_X8 (hts0 (.instantiable RX8 17) (List.mem_of_getElem? (i := 193) (by decide +kernel)))
  obtain ⟨c9, iS9, hKn9⟩ := u_known (C := RX9) (T := TX9) (N := 15) (n := 15) hts i_L_law_X9 (hts0 (.instantiable RX9 15) (List.mem_of_getElem? (i := 452) (by decide +kernel)))
  obtain ⟨c10, iS10, hKn10⟩ := u_known (C := RX10) (T := TX10) (N := 2) (n := 2) hts i_L_law_X10 (hts0 (.instantiable RX10 2) (List.mem_of_getElem? (i := 340) (by decide +kernel)))
  obtain ⟨c11, iS11, hKn11⟩ := u_known (C := RX11) (T := TX11) (N := 11) (n := 11) hts i_L_law_X11 (hts0 (.instantiable RX11 11) (List.mem_of_getElem? (i := 185) (by decide +kernel)))
  obtain ⟨c12, iS12, hKn12⟩ := u_known (C := RX12) (T := TX12) (N := 59) (n := 59) hts i_L_law_X12 (hts0 (.instantiable RX12 59) (List.mem_of_getElem? (i := 1404) (by decide +kernel)))
  obtain ⟨dC, dI, hKc⟩ : ∃ (dC : Nat → ClassId) (dI : Nat → Nat → Nat), ∀ (k : Nat) (q : vw_C), vwCl[k]? = some q → u_Kn s q.1 q.2.1 q.2.2 (dC k) (dI k) := by
    refine ⟨fun k => [c0, c1, c2, c3, c4, c5, c6, c7, c8, c9, c10, c11, c12].getD k c0, fun k => [iS0, iS1, iS2, iS3, iS4, iS5, iS6, iS7, iS8, iS9, iS10, iS11, iS12].getD k iS0, ?_⟩
    intro k q hq
    match k, hq with
    | 0, hq => cases hq; exact hKn0
    | 1, hq => cases hq; exact hKn1
    | 2, hq => cases hq; exact hKn2
    | 3, hq => cases hq; exact hKn3
    | 4, hq => cases hq; exact hKn4
    | 5, hq => cases hq; exact hKn5
    | 6, hq => cases hq; exact hKn6
    | 7, hq => cases hq; exact hKn7
    | 8, hq => cases hq; exact hKn8
    | 9, hq => cases hq; exact hKn9
    | 10, hq => cases hq; exact hKn10
    | 11, hq => cases hq; exact hKn11
    | 12, hq => cases hq; exact hKn12
    | k + 13, hq => simp [vwCl] at hq
  obtain ⟨cI, kI, pI, fI1, fI2, fI3⟩ := Cond.arrayClass_spec (hts0 (.arrayClass .int) (List.mem_of_getElem? (i := 221) (by decide +kernel)))
  have KI : ArrOfT s cI .int ∧ va_RA s cI .int := ⟨fun n z => ⟨fun k h => (by cases h), kI, fI2, pI, fI3⟩, fI1⟩
  obtain ⟨cZ, kZ, pZ, fZ1, fZ2, fZ3⟩ := Cond.arrayClass_spec (hts0 (.arrayClass .boolean) (List.mem_of_getElem? (i := 1587) (by decide +kernel)))
  have KZ : ArrOfT s cZ .boolean ∧ va_RA s cZ .boolean := ⟨fun n z => ⟨fun k h => (by cases h), kZ, fZ2, pZ, fZ3⟩, fZ1⟩
  have aoN : va_AO RX4 s := va_AO.of (hts0 (.arrayOver (.object RX4)) (List.mem_of_getElem? (i := 346) (by decide +kernel)))
  obtain ⟨pN, cN, kN, fN1, fN2, fN3, fN4, fN5⟩ := Cond.arrayOver_spec aoN
  have KN : ArrOfT s cN (.object RX4) ∧ va_RA s cN (.object RX4) := ⟨fun n z => ⟨fun k h => (by cases h), kN, fN3, pN, fN4⟩, kN, pN, fN3, fN4, fN1, fN5⟩
  have aoS : va_AO RX8 s := va_AO.of (hts0 (.arrayOver (.object RX8)) (List.mem_of_getElem? (i := 646) (by decide +kernel)))
  obtain ⟨pS, cS, kS, fS1, fS2, fS3, fS4, fS5⟩ := Cond.arrayOver_spec aoS
  have KS : ArrOfT s cS (.object RX8) ∧ va_RA s cS (.object RX8) := ⟨fun n z => ⟨fun k h => (by cases h), kS, fS3, pS, fS4⟩, kS, pS, fS3, fS4, fS1, fS5⟩
  have aoF : va_AO RX0 s := va_AO.of (hts0 (.arrayOver (.object RX0)) (List.mem_of_getElem? (i := 510) (by decide +kernel)))
  obtain ⟨pF, cF, kF, fF1, fF2, fF3, fF4, fF5⟩ := Cond.arrayOver_spec aoF
  have KF : ArrOfT s cF (.object RX0) ∧ va_RA s cF (.object RX0) := ⟨fun n z => ⟨fun k h => (by cases h), kF, fF3, pF, fF4⟩, kF, pF, fF3, fF4, fF1, fF5⟩
  have hCE : ∃ cy : Nat → ClassId, cK dC dI cy s := by
    refine ⟨fun k => [cI, cN, cS, cF, cZ].getD k cI, ⟨hKc, fun k q h => ?_⟩, va_Nw.of rfl (hts0 (.methodLinkNest RX8 51 yX6_init RX11) (List.mem_of_getElem? (i := 200) (by decide +kernel))), va_Nw.of rfl (hts0 (.methodLinkNest RX10 21 yX4_init RX11) (List.mem_of_getElem? (i := 348) (by decide +kernel))), aoF, aoN, aoS⟩
    match k, h with
    | 0, h => cases h; exact KI
    | 1, h => cases h; exact KN
    | 2, h => cases h; exact KS
    | 3, h => cases h; exact KF
    | 4, h => cases h; exact KZ
    | k + 5, h => simp [ft] at h
  obtain ⟨cy, hC⟩ := hCE
  have hK := hC.1
  have hS : va_S A s.heap s.heap [] := va_S.rf
  have hP : va_P (dC, dI) vwCl ([] : va_W) s.heap := va_P0
  have hD : va_D A ([] : va_W) := va_D0
  have hl := lv_entry ([.ref sc]) (n := 4) (Nat.le_of_ble_eq_true rfl)
  rw [lg_entry_eq]
  generalize (lg_sl ([.ref sc]) ++ List.replicate (4 - (lg_sl ([.ref sc])).length) Slot.unset).toArray = ls at hl ⊢
  have hl : lv_has ls 4 [(0, .ref sc)] := hl
  refine va_new (ci := 11) (fs := [.null, .null, .null, .null, .null, .null, .null, .null, .null, .int 0, .int 0]) (C := RX11) (T := TX11) (N := 11) hx hb hts i_L_law_X11 tyX11 tyX11_ok hown (hts _ m_L_law_0) (hts _ m_L_law_1) (hts _ m_L_law_2) hK hP hD hS hA rfl tfX11 (Nat.le_of_ble_eq_true rfl) (Nat.le_of_ble_eq_true rfl) dL_law_0 (fun q1_ H hP hD hS => ?_)
  refine lv_dup hx hb dL_law_3 rfl ?_
  have hPc : va_P (dC, dI) vwCl ([(q1_, .inr (11, [.null, .null, .null, .null, .null, .null, .null, .null, .null, .int 0, .int 0]))]) _ := hP.sub [0] rfl
  have hDc := hD.sub (ws' := [(q1_, .inr (11, [.null, .null, .null, .null, .null, .null, .null, .null, .null, .int 0, .int 0]))]) [0] (by decide) rfl
  have hFc := va_free (wc := [(q1_, .inr (11, [.null, .null, .null, .null, .null, .null, .null, .null, .null, .int 0, .int 0]))]) hD hS hA [0] rfl
  refine va_callv (va_runI (As := []) (rest := [.ref q1_]) ⟨hx, hb, hml, hown, hts⟩ (c_X11_init l dC dI cy q1_ _) (cwI 0 hts g_L_law_X11_init_9 rfl rfl rfl (hts _ m_L_law_2) (hts _ m_L_law_3) (hts _ m_L_law_4) rfl (by decide +kernel) ⟨Nat.le_of_ble_eq_true rfl, Nat.le_of_ble_eq_true rfl⟩) (pS_ps hC hPc hDc) rfl rfl hl.1 rfl (lv_room (Nat.le_of_ble_eq_true rfl)) dL_law_4 ⟨Nat.le_of_ble_eq_true rfl, Nat.le_of_ble_eq_true rfl⟩) hS (fun q _ h => hFc q h) hFc (fun u t_ H1 locs ht hvm hw hB hz1 hk1 hS => ?_)
  obtain ⟨u2_, rfl⟩ : ∃ z, z = u := ⟨_, rfl⟩
  obtain ⟨hP1, hD1⟩ := hB
  rw [ht] at hP1
  obtain ⟨hP, hD⟩ := va_join (wr := []) (w1 := [(q1_, .inr (11, [.ref (u2_.1 0), .ref (u2_.1 1), .ref (u2_.1 2), .ref (u2_.1 3), .ref (u2_.1 4), .ref (u2_.1 5), .ref (u2_.1 6), .ref (u2_.1 7), .ref (u2_.1 8), .int 0, .int (-1)])), (u2_.1 0, .inr (8, [.int 1, .int 0, .int 0, .ref (u2_.1 9), .ref (u2_.1 10), .ref (u2_.1 11), .ref (u2_.1 12), .ref (u2_.1 13), .ref (u2_.1 14), .ref (u2_.1 15), .ref (u2_.1 16), .ref (u2_.1 17), .ref (u2_.1 18), .ref (u2_.1 19), .ref (u2_.1 20), .ref (u2_.1 21), .ref (u2_.1 22)])), (u2_.1 9, .inl (cy 0, 32, .inl (fun _ => 0))), (u2_.1 10, .inl (cy 0, 192, .inl (fun _ => 0))), (u2_.1 11, .inl (cy 0, 32, .inl (fun _ => 0))), (u2_.1 12, .inl (cy 0, 32, .inl (fun _ => 0))), (u2_.1 13, .inl (cy 0, 32, .inl (fun _ => 0))), (u2_.1 14, .inl (cy 0, 32, .inl (fun _ => (-1)))), (u2_.1 15, .inl (cy 0, 32, .inl (fun _ => 0))), (u2_.1 16, .inl (cy 0, 192, .inl (fun _ => (-1)))), (u2_.1 17, .inl (cy 0, 128, .inl (fun _ => (-1)))), (u2_.1 18, .inl (cy 0, 32, .inl (fun _ => 0))), (u2_.1 19, .inl (cy 0, 192, .inl (fun _ => 0))), (u2_.1 20, .inr (6, [.ref (u2_.1 23), .int 0, .int 0, .int 0])), (u2_.1 23, .inl (cy 0, 40, .inl (fun _ => 0))), (u2_.1 21, .inr (2, [.ref (u2_.1 24), .ref (u2_.1 25), .int 0, .int 0])), (u2_.1 24, .inl (cy 0, 16, .inl (fun _ => 0))), (u2_.1 25, .inl (cy 0, 16, .inl (fun _ => 0))), (u2_.1 22, .inr (2, [.ref (u2_.1 26), .ref (u2_.1 27), .int 0, .int 0])), (u2_.1 26, .inl (cy 0, 32, .inl (fun _ => 0))), (u2_.1 27, .inl (cy 0, 32, .inl (fun _ => 0))), (u2_.1 2, .inr (10, [.ref (u2_.1 28), .ref (u2_.1 0)])), (u2_.1 28, .inl (cy 1, 32, .inr (.inr (.inr (.inr (va_up (u2_.2.2 0) 0 (some (u2_.1 29)))))))), (u2_.1 29, .inr (4, [.int 1, .int 0, .int (-1), .int 0, .int 0, .int 0, .int 0, .int 0, .int 0, .int 0, .int 0, .int 0, .ref (u2_.1 30), .ref (u2_.1 31)])), (u2_.1 3, .inr (9, [.ref (u2_.1 2), .ref (u2_.1 32), .int 0, .int 0, .int 0, .int (-1), .int 0, .ref (u2_.1 33), .ref (u2_.1 34), .int 0, .ref (u2_.1 35), .ref (u2_.1 36), .int 0, .int 0, .int 0])), (u2_.1 32, .inl (cy 0, 400, .inl (fun _ => 0))), (u2_.1 33, .inl (cy 0, 33, .inl (fun _ => 0))), (u2_.1 34, .inl (cy 0, 33, .inl (fun _ => 0))), (u2_.1 4, .inr (3, [.ref (u2_.1 2), .ref (u2_.1 0), .ref (u2_.1 37), .int 0, .int 0, .int 0, .int 0, .ref (u2_.1 38), .ref (u2_.1 39), .int 0])), (u2_.1 38, .inl (cy 0, 15, .inl (fun _ => 0))), (u2_.1 5, .inr (5, [.ref (u2_.1 2), .ref (u2_.1 0), .ref (u2_.1 40), .ref (u2_.1 41)])), (u2_.1 6, .inr (7, [.ref (u2_.1 2), .ref (u2_.1 0), .ref (u2_.1 4), .ref (u2_.1 5), .ref (u2_.1 42)])), (u2_.1 7, .inr (1, [.ref (u2_.1 0), .ref (u2_.1 43), .ref (u2_.1 44), .int 0, .int 0])), (u2_.1 43, .inl (cy 2, 8, .inr (.inr (.inr (.inr (va_up (u2_.2.2 1) 0 (some (u2_.1 45)))))))), (u2_.1 44, .inl (cy 0, 8, .inl (fun _ => 0))), (u2_.1 45, .inr (8, [.int 1, .int 0, .int 0, .ref (u2_.1 46), .ref (u2_.1 47), .ref (u2_.1 48), .ref (u2_.1 49), .ref (u2_.1 50), .ref (u2_.1 51), .ref (u2_.1 52), .ref (u2_.1 53), .ref (u2_.1 54), .ref (u2_.1 55), .ref (u2_.1 56), .ref (u2_.1 57), .ref (u2_.1 58), .ref (u2_.1 59)])), (u2_.1 46, .inl (cy 0, 32, .inl (fun _ => 0))), (u2_.1 47, .inl (cy 0, 192, .inl (fun _ => 0))), (u2_.1 48, .inl (cy 0, 32, .inl (fun _ => 0))), (u2_.1 49, .inl (cy 0, 32, .inl (fun _ => 0))), (u2_.1 50, .inl (cy 0, 32, .inl (fun _ => 0))), (u2_.1 51, .inl (cy 0, 32, .inl (fun _ => (-1)))), (u2_.1 52, .inl (cy 0, 32, .inl (fun _ => 0))), (u2_.1 53, .inl (cy 0, 192, .inl (fun _ => (-1)))), (u2_.1 54, .inl (cy 0, 128, .inl (fun _ => (-1)))), (u2_.1 55, .inl (cy 0, 32, .inl (fun _ => 0))), (u2_.1 56, .inl (cy 0, 192, .inl (fun _ => 0))), (u2_.1 57, .inr (6, [.ref (u2_.1 60), .int 0, .int 0, .int 0])), (u2_.1 60, .inl (cy 0, 40, .inl (fun _ => 0))), (u2_.1 58, .inr (2, [.ref (u2_.1 61), .ref (u2_.1 62), .int 0, .int 0])), (u2_.1 61, .inl (cy 0, 16, .inl (fun _ => 0))), (u2_.1 62, .inl (cy 0, 16, .inl (fun _ => 0))), (u2_.1 59, .inr (2, [.ref (u2_.1 63), .ref (u2_.1 64), .int 0, .int 0])), (u2_.1 63, .inl (cy 0, 32, .inl (fun _ => 0))), (u2_.1 64, .inl (cy 0, 32, .inl (fun _ => 0))), (u2_.1 8, .inl (cy 0, 7, .inl (fun _ => 0)))]) hP hD [0] [] rfl rfl (by decide) (by decide) hk1 hFc hP1 hD1
  generalize H1 = H at hP hS ⊢
  have hP : va_P (dC, dI) vwCl ([(q1_, .inr (11, [.ref (u2_.1 0), .ref (u2_.1 1), .ref (u2_.1 2), .ref (u2_.1 3), .ref (u2_.1 4), .ref (u2_.1 5), .ref (u2_.1 6), .ref (u2_.1 7), .ref (u2_.1 8), .int 0, .int (-1)])), (u2_.1 0, .inr (8, [.int 1, .int 0, .int 0, .ref (u2_.1 9), .ref (u2_.1 10), .ref (u2_.1 11), .ref (u2_.1 12), .ref (u2_.1 13), .ref (u2_.1 14), .ref (u2_.1 15), .ref (u2_.1 16), .ref (u2_.1 17), .ref (u2_.1 18), .ref (u2_.1 19), .ref (u2_.1 20), .ref (u2_.1 21), .ref (u2_.1 22)])), (u2_.1 9, .inl (cy 0, 32, .inl (fun _ => 0))), (u2_.1 10, .inl (cy 0, 192, .inl (fun _ => 0))), (u2_.1 11, .inl (cy 0, 32, .inl (fun _ => 0))), (u2_.1 12, .inl (cy 0, 32, .inl (fun _ => 0))), (u2_.1 13, .inl (cy 0, 32, .inl (fun _ => 0))), (u2_.1 14, .inl (cy 0, 32, .inl (fun _ => (-1)))), (u2_.1 15, .inl (cy 0, 32, .inl (fun _ => 0))), (u2_.1 16, .inl (cy 0, 192, .inl (fun _ => (-1)))), (u2_.1 17, .inl (cy 0, 128, .inl (fun _ => (-1)))), (u2_.1 18, .inl (cy 0, 32, .inl (fun _ => 0))), (u2_.1 19, .inl (cy 0, 192, .inl (fun _ => 0))), (u2_.1 20, .inr (6, [.ref (u2_.1 23), .int 0, .int 0, .int 0])), (u2_.1 23, .inl (cy 0, 40, .inl (fun _ => 0))), (u2_.1 21, .inr (2, [.ref (u2_.1 24), .ref (u2_.1 25), .int 0, .int 0])), (u2_.1 24, .inl (cy 0, 16, .inl (fun _ => 0))), (u2_.1 25, .inl (cy 0, 16, .inl (fun _ => 0))), (u2_.1 22, .inr (2, [.ref (u2_.1 26), .ref (u2_.1 27), .int 0, .int 0])), (u2_.1 26, .inl (cy 0, 32, .inl (fun _ => 0))), (u2_.1 27, .inl (cy 0, 32, .inl (fun _ => 0))), (u2_.1 2, .inr (10, [.ref (u2_.1 28), .ref (u2_.1 0)])), (u2_.1 28, .inl (cy 1, 32, .inr (.inr (.inr (.inr (va_up (u2_.2.2 0) 0 (some (u2_.1 29)))))))), (u2_.1 29, .inr (4, [.int 1, .int 0, .int (-1), .int 0, .int 0, .int 0, .int 0, .int 0, .int 0, .int 0, .int 0, .int 0, .ref (u2_.1 30), .ref (u2_.1 31)])), (u2_.1 3, .inr (9, [.ref (u2_.1 2), .ref (u2_.1 32), .int 0, .int 0, .int 0, .int (-1), .int 0, .ref (u2_.1 33), .ref (u2_.1 34), .int 0, .ref (u2_.1 35), .ref (u2_.1 36), .int 0, .int 0, .int 0])), (u2_.1 32, .inl (cy 0, 400, .inl (fun _ => 0))), (u2_.1 33, .inl (cy 0, 33, .inl (fun _ => 0))), (u2_.1 34, .inl (cy 0, 33, .inl (fun _ => 0))), (u2_.1 4, .inr (3, [.ref (u2_.1 2), .ref (u2_.1 0), .ref (u2_.1 37), .int 0, .int 0, .int 0, .int 0, .ref (u2_.1 38), .ref (u2_.1 39), .int 0])), (u2_.1 38, .inl (cy 0, 15, .inl (fun _ => 0))), (u2_.1 5, .inr (5, [.ref (u2_.1 2), .ref (u2_.1 0), .ref (u2_.1 40), .ref (u2_.1 41)])), (u2_.1 6, .inr (7, [.ref (u2_.1 2), .ref (u2_.1 0), .ref (u2_.1 4), .ref (u2_.1 5), .ref (u2_.1 42)])), (u2_.1 7, .inr (1, [.ref (u2_.1 0), .ref (u2_.1 43), .ref (u2_.1 44), .int 0, .int 0])), (u2_.1 43, .inl (cy 2, 8, .inr (.inr (.inr (.inr (va_up (u2_.2.2 1) 0 (some (u2_.1 45)))))))), (u2_.1 44, .inl (cy 0, 8, .inl (fun _ => 0))), (u2_.1 45, .inr (8, [.int 1, .int 0, .int 0, .ref (u2_.1 46), .ref (u2_.1 47), .ref (u2_.1 48), .ref (u2_.1 49), .ref (u2_.1 50), .ref (u2_.1 51), .ref (u2_.1 52), .ref (u2_.1 53), .ref (u2_.1 54), .ref (u2_.1 55), .ref (u2_.1 56), .ref (u2_.1 57), .ref (u2_.1 58), .ref (u2_.1 59)])), (u2_.1 46, .inl (cy 0, 32, .inl (fun _ => 0))), (u2_.1 47, .inl (cy 0, 192, .inl (fun _ => 0))), (u2_.1 48, .inl (cy 0, 32, .inl (fun _ => 0))), (u2_.1 49, .inl (cy 0, 32, .inl (fun _ => 0))), (u2_.1 50, .inl (cy 0, 32, .inl (fun _ => 0))), (u2_.1 51, .inl (cy 0, 32, .inl (fun _ => (-1)))), (u2_.1 52, .inl (cy 0, 32, .inl (fun _ => 0))), (u2_.1 53, .inl (cy 0, 192, .inl (fun _ => (-1)))), (u2_.1 54, .inl (cy 0, 128, .inl (fun _ => (-1)))), (u2_.1 55, .inl (cy 0, 32, .inl (fun _ => 0))), (u2_.1 56, .inl (cy 0, 192, .inl (fun _ => 0))), (u2_.1 57, .inr (6, [.ref (u2_.1 60), .int 0, .int 0, .int 0])), (u2_.1 60, .inl (cy 0, 40, .inl (fun _ => 0))), (u2_.1 58, .inr (2, [.ref (u2_.1 61), .ref (u2_.1 62), .int 0, .int 0])), (u2_.1 61, .inl (cy 0, 16, .inl (fun _ => 0))), (u2_.1 62, .inl (cy 0, 16, .inl (fun _ => 0))), (u2_.1 59, .inr (2, [.ref (u2_.1 63), .ref (u2_.1 64), .int 0, .int 0])), (u2_.1 63, .inl (cy 0, 32, .inl (fun _ => 0))), (u2_.1 64, .inl (cy 0, 32, .inl (fun _ => 0))), (u2_.1 8, .inl (cy 0, 7, .inl (fun _ => 0)))]) H := hP
  have hD : va_D A ([(q1_, .inr (11, [.ref (u2_.1 0), .ref (u2_.1 1), .ref (u2_.1 2), .ref (u2_.1 3), .ref (u2_.1 4), .ref (u2_.1 5), .ref (u2_.1 6), .ref (u2_.1 7), .ref (u2_.1 8), .int 0, .int (-1)])), (u2_.1 0, .inr (8, [.int 1, .int 0, .int 0, .ref (u2_.1 9), .ref (u2_.1 10), .ref (u2_.1 11), .ref (u2_.1 12), .ref (u2_.1 13), .ref (u2_.1 14), .ref (u2_.1 15), .ref (u2_.1 16), .ref (u2_.1 17), .ref (u2_.1 18), .ref (u2_.1 19), .ref (u2_.1 20), .ref (u2_.1 21), .ref (u2_.1 22)])), (u2_.1 9, .inl (cy 0, 32, .inl (fun _ => 0))), (u2_.1 10, .inl (cy 0, 192, .inl (fun _ => 0))), (u2_.1 11, .inl (cy 0, 32, .inl (fun _ => 0))), (u2_.1 12, .inl (cy 0, 32, .inl (fun _ => 0))), (u2_.1 13, .inl (cy 0, 32, .inl (fun _ => 0))), (u2_.1 14, .inl (cy 0, 32, .inl (fun _ => (-1)))), (u2_.1 15, .inl (cy 0, 32, .inl (fun _ => 0))), (u2_.1 16, .inl (cy 0, 192, .inl (fun _ => (-1)))), (u2_.1 17, .inl (cy 0, 128, .inl (fun _ => (-1)))), (u2_.1 18, .inl (cy 0, 32, .inl (fun _ => 0))), (u2_.1 19, .inl (cy 0, 192, .inl (fun _ => 0))), (u2_.1 20, .inr (6, [.ref (u2_.1 23), .int 0, .int 0, .int 0])), (u2_.1 23, .inl (cy 0, 40, .inl (fun _ => 0))), (u2_.1 21, .inr (2, [.ref (u2_.1 24), .ref (u2_.1 25), .int 0, .int 0])), (u2_.1 24, .inl (cy 0, 16, .inl (fun _ => 0))), (u2_.1 25, .inl (cy 0, 16, .inl (fun _ => 0))), (u2_.1 22, .inr (2, [.ref (u2_.1 26), .ref (u2_.1 27), .int 0, .int 0])), (u2_.1 26, .inl (cy 0, 32, .inl (fun _ => 0))), (u2_.1 27, .inl (cy 0, 32, .inl (fun _ => 0))), (u2_.1 2, .inr (10, [.ref (u2_.1 28), .ref (u2_.1 0)])), (u2_.1 28, .inl (cy 1, 32, .inr (.inr (.inr (.inr (va_up (u2_.2.2 0) 0 (some (u2_.1 29)))))))), (u2_.1 29, .inr (4, [.int 1, .int 0, .int (-1), .int 0, .int 0, .int 0, .int 0, .int 0, .int 0, .int 0, .int 0, .int 0, .ref (u2_.1 30), .ref (u2_.1 31)])), (u2_.1 3, .inr (9, [.ref (u2_.1 2), .ref (u2_.1 32), .int 0, .int 0, .int 0, .int (-1), .int 0, .ref (u2_.1 33), .ref (u2_.1 34), .int 0, .ref (u2_.1 35), .ref (u2_.1 36), .int 0, .int 0, .int 0])), (u2_.1 32, .inl (cy 0, 400, .inl (fun _ => 0))), (u2_.1 33, .inl (cy 0, 33, .inl (fun _ => 0))), (u2_.1 34, .inl (cy 0, 33, .inl (fun _ => 0))), (u2_.1 4, .inr (3, [.ref (u2_.1 2), .ref (u2_.1 0), .ref (u2_.1 37), .int 0, .int 0, .int 0, .int 0, .ref (u2_.1 38), .ref (u2_.1 39), .int 0])), (u2_.1 38, .inl (cy 0, 15, .inl (fun _ => 0))), (u2_.1 5, .inr (5, [.ref (u2_.1 2), .ref (u2_.1 0), .ref (u2_.1 40), .ref (u2_.1 41)])), (u2_.1 6, .inr (7, [.ref (u2_.1 2), .ref (u2_.1 0), .ref (u2_.1 4), .ref (u2_.1 5), .ref (u2_.1 42)])), (u2_.1 7, .inr (1, [.ref (u2_.1 0), .ref (u2_.1 43), .ref (u2_.1 44), .int 0, .int 0])), (u2_.1 43, .inl (cy 2, 8, .inr (.inr (.inr (.inr (va_up (u2_.2.2 1) 0 (some (u2_.1 45)))))))), (u2_.1 44, .inl (cy 0, 8, .inl (fun _ => 0))), (u2_.1 45, .inr (8, [.int 1, .int 0, .int 0, .ref (u2_.1 46), .ref (u2_.1 47), .ref (u2_.1 48), .ref (u2_.1 49), .ref (u2_.1 50), .ref (u2_.1 51), .ref (u2_.1 52), .ref (u2_.1 53), .ref (u2_.1 54), .ref (u2_.1 55), .ref (u2_.1 56), .ref (u2_.1 57), .ref (u2_.1 58), .ref (u2_.1 59)])), (u2_.1 46, .inl (cy 0, 32, .inl (fun _ => 0))), (u2_.1 47, .inl (cy 0, 192, .inl (fun _ => 0))), (u2_.1 48, .inl (cy 0, 32, .inl (fun _ => 0))), (u2_.1 49, .inl (cy 0, 32, .inl (fun _ => 0))), (u2_.1 50, .inl (cy 0, 32, .inl (fun _ => 0))), (u2_.1 51, .inl (cy 0, 32, .inl (fun _ => (-1)))), (u2_.1 52, .inl (cy 0, 32, .inl (fun _ => 0))), (u2_.1 53, .inl (cy 0, 192, .inl (fun _ => (-1)))), (u2_.1 54, .inl (cy 0, 128, .inl (fun _ => (-1)))), (u2_.1 55, .inl (cy 0, 32, .inl (fun _ => 0))), (u2_.1 56, .inl (cy 0, 192, .inl (fun _ => 0))), (u2_.1 57, .inr (6, [.ref (u2_.1 60), .int 0, .int 0, .int 0])), (u2_.1 60, .inl (cy 0, 40, .inl (fun _ => 0))), (u2_.1 58, .inr (2, [.ref (u2_.1 61), .ref (u2_.1 62), .int 0, .int 0])), (u2_.1 61, .inl (cy 0, 16, .inl (fun _ => 0))), (u2_.1 62, .inl (cy 0, 16, .inl (fun _ => 0))), (u2_.1 59, .inr (2, [.ref (u2_.1 63), .ref (u2_.1 64), .int 0, .int 0])), (u2_.1 63, .inl (cy 0, 32, .inl (fun _ => 0))), (u2_.1 64, .inl (cy 0, 32, .inl (fun _ => 0))), (u2_.1 8, .inl (cy 0, 7, .inl (fun _ => 0)))]) := hD
  refine lv_astore_n (lv' := [(1, .ref q1_), (0, .ref sc)]) hx hb dL_law_7 rfl hl (by decide) rfl (fun ls hl => ?_)
  obtain ⟨a, ha⟩ : ∃ a : Nat → Nat, a = fun k => [q1_, u2_.1 0, u2_.1 9, u2_.1 10, u2_.1 11, u2_.1 12, u2_.1 13, u2_.1 14, u2_.1 15, u2_.1 16, u2_.1 17, u2_.1 18, u2_.1 19, u2_.1 20, u2_.1 23, u2_.1 21, u2_.1 24, u2_.1 25, u2_.1 22, u2_.1 26, u2_.1 27, u2_.1 2, u2_.1 28, u2_.1 29, u2_.1 3, u2_.1 32, u2_.1 33, u2_.1 34, u2_.1 4, u2_.1 38, u2_.1 5, u2_.1 6, u2_.1 7, u2_.1 43, u2_.1 44, u2_.1 45, u2_.1 46, u2_.1 47, u2_.1 48, u2_.1 49, u2_.1 50, u2_.1 51, u2_.1 52, u2_.1 53, u2_.1 54, u2_.1 55, u2_.1 56, u2_.1 57, u2_.1 60, u2_.1 58, u2_.1 61, u2_.1 62, u2_.1 59, u2_.1 63, u2_.1 64, u2_.1 8, 0, 0, 0, 0, u2_.1 1, u2_.1 30, u2_.1 31, u2_.1 35, u2_.1 36, u2_.1 37, u2_.1 39, u2_.1 40, u2_.1 41, u2_.1 42].getD k 0 := ⟨_, rfl⟩
  obtain ⟨g, hg⟩ : ∃ g : Nat → Nat → Option Nat, g = fun k => [(u2_.2.2 0), (u2_.2.2 1)].getD k (fun _ => none) := ⟨_, rfl⟩
  have hP : va_P (dC, dI) vwCl (fw a cy g) H := by
    rw [ha, hg]
    exact hP
  have hD : va_D A (fw a cy g) := by
    rw [ha, hg]
    exact hD
  have ea : q1_ = a 0 := by
    rw [ha]
    rfl
  have hl : lv_has ls 4 [(1, .ref (a 0)), (0, .ref sc)] := by
    rw [← ea]
    exact hl
  clear hP1 hD1
  refine va_new (ci := 12) (fs := [.int 0, .int 0, .null, .null, .null, .null, .int 0, .null, .null, .int 0, .int 0, .int 0, .int 0, .int 0, .null, .null, .int 0, .null, .null, .int 0, .int 0, .null, .int 0, .int 0, .int 0, .int 0, .null, .null, .null, .int 0, .null, .int 0, .null, .null, .null, .null, .null, .null, .null, .int 0, .int 0, .int 0, .int 0, .int 0, .int 0, .null, .null, .null, .int 0, .int 0, .int 0, .null, .int 0, .int 0, .null, .null, .null, .null, .int 0]) (C := RX12) (T := TX12) (N := 59) hx hb hts i_L_law_X12 tyX12 tyX12_ok hown (hts _ m_L_law_5) (hts _ m_L_law_6) (hts _ m_L_law_7) hK hP hD hS hA rfl tfX12 (Nat.le_of_ble_eq_true rfl) (Nat.le_of_ble_eq_true rfl) dL_law_8 (fun q3_ H hP hD hS => ?_)
  refine lv_dup hx hb dL_law_11 rfl ?_
  have hPc : va_P (dC, dI) vwCl ([(q3_, .inr (12, [.int 0, .int 0, .null, .null, .null, .null, .int 0, .null, .null, .int 0, .int 0, .int 0, .int 0, .int 0, .null, .null, .int 0, .null, .null, .int 0, .int 0, .null, .int 0, .int 0, .int 0, .int 0, .null, .null, .null, .int 0, .null, .int 0, .null, .null, .null, .null, .null, .null, .null, .int 0, .int 0, .int 0, .int 0, .int 0, .int 0, .null, .null, .null, .int 0, .int 0, .int 0, .null, .int 0, .int 0, .null, .null, .null, .null, .int 0]))]) _ := hP.sub [56] rfl
  have hDc := hD.sub (ws' := [(q3_, .inr (12, [.int 0, .int 0, .null, .null, .null, .null, .int 0, .null, .null, .int 0, .int 0, .int 0, .int 0, .int 0, .null, .null, .int 0, .null, .null, .int 0, .int 0, .null, .int 0, .int 0, .int 0, .int 0, .null, .null, .null, .int 0, .null, .int 0, .null, .null, .null, .null, .null, .null, .null, .int 0, .int 0, .int 0, .int 0, .int 0, .int 0, .null, .null, .null, .int 0, .int 0, .int 0, .null, .int 0, .int 0, .null, .null, .null, .null, .int 0]))]) [56] (by decide) rfl
  have hFc := va_free (wc := [(q3_, .inr (12, [.int 0, .int 0, .null, .null, .null, .null, .int 0, .null, .null, .int 0, .int 0, .int 0, .int 0, .int 0, .null, .null, .int 0, .null, .null, .int 0, .int 0, .null, .int 0, .int 0, .int 0, .int 0, .null, .null, .null, .int 0, .null, .int 0, .null, .null, .null, .null, .null, .null, .null, .int 0, .int 0, .int 0, .int 0, .int 0, .int 0, .null, .null, .null, .int 0, .int 0, .int 0, .null, .int 0, .int 0, .null, .null, .null, .null, .int 0]))]) hD hS hA [56] rfl
  refine va_callv (va_runI (As := []) (rest := [.ref q3_]) ⟨hx, hb, hml, hown, hts⟩ (c_X12_init l dC dI cy q3_ _) (cwI 0 hts g_L_law_X12_init_12 rfl rfl rfl (hts _ m_L_law_7) (hts _ m_L_law_8) (hts _ m_L_law_9) rfl (by decide +kernel) ⟨Nat.le_of_ble_eq_true rfl, Nat.le_of_ble_eq_true rfl⟩) (pS_ps hC hPc hDc) rfl rfl hl.1 rfl (lv_room (Nat.le_of_ble_eq_true rfl)) dL_law_12 ⟨Nat.le_of_ble_eq_true rfl, Nat.le_of_ble_eq_true rfl⟩) hS (fun q _ h => hFc q h) hFc (fun u t_ H1 locs ht hvm hw hB hz1 hk1 hS => ?_)
  obtain ⟨u4_, rfl⟩ : ∃ z, z = u := ⟨_, rfl⟩
  obtain ⟨hP1, hD1⟩ := hB
  rw [ht] at hP1
  obtain ⟨hP, hD⟩ := va_join (wr := fw a cy g) (w1 := [(q3_, .inr (12, [.int 0, .int 0, .ref (u4_.1 0), .ref (u4_.1 1), .ref (u4_.1 2), .ref (u4_.1 3), .int 0, .ref (u4_.1 4), .ref (u4_.1 5), .int 0, .int 0, .int 0, .int (-1), .int 0, .ref (u4_.1 6), .ref (u4_.1 7), .int 0, .ref (u4_.1 8), .ref (u4_.1 9), .int 0, .int 0, .ref (u4_.1 10), .int 0, .int 0, .int 0, .int 0, .ref (u4_.1 11), .ref (u4_.1 12), .ref (u4_.1 13), .int 0, .ref (u4_.1 14), .int 0, .ref (u4_.1 15), .ref (u4_.1 16), .ref (u4_.1 17), .ref (u4_.1 18), .ref (u4_.1 19), .ref (u4_.1 20), .ref (u4_.1 21), .int 0, .int 0, .int 0, .int 0, .int 0, .int 0, .ref (u4_.1 22), .ref (u4_.1 23), .ref (u4_.1 24), .int 0, .int 0, .int 0, .ref (u4_.1 25), .int 0, .int 0, .ref (u4_.1 26), .ref (u4_.1 27), .ref (u4_.1 28), .ref (u4_.1 29), .int 0])), (u4_.1 0, .inl (cy 0, 8, .inl (fun _ => 0))), (u4_.1 1, .inl (cy 0, 3408, .inl (upd (upd (upd (fun _ => 0) 3264 1) 0 1) 2 (-1)))), (u4_.1 2, .inl (cy 0, 27264, .inl (fun _ => 0))), (u4_.1 3, .inl (cy 0, 8, .inl (fun _ => 0))), (u4_.1 4, .inl (cy 0, 3408, .inl (fun _ => 0))), (u4_.1 5, .inl (cy 0, 400, .inl (fun _ => 0))), (u4_.1 6, .inl (cy 0, 32, .inl (fun _ => 0)))]) hP hD [56] [0, 1, 2, 3, 4, 5, 6, 7, 8, 9, 10, 11, 12, 13, 14, 15, 16, 17, 18, 19, 20, 21, 22, 23, 24, 25, 26, 27, 28, 29, 30, 31, 32, 33, 34, 35, 36, 37, 38, 39, 40, 41, 42, 43, 44, 45, 46, 47, 48, 49, 50, 51, 52, 53, 54, 55] rfl rfl (by decide) (by decide) hk1 hFc hP1 hD1
  generalize H1 = H at hP hS ⊢
  have hP : va_P (dC, dI) vwCl ([(a 0, .inr (11, [.ref (a 1), .ref (a 60), .ref (a 21), .ref (a 24), .ref (a 28), .ref (a 30), .ref (a 31), .ref (a 32), .ref (a 55), .int 0, .int (-1)])), (a 1, .inr (8, [.int 1, .int 0, .int 0, .ref (a 2), .ref (a 3), .ref (a 4), .ref (a 5), .ref (a 6), .ref (a 7), .ref (a 8), .ref (a 9), .ref (a 10), .ref (a 11), .ref (a 12), .ref (a 13), .ref (a 15), .ref (a 18)])), (a 2, .inl (cy 0, 32, .inl (fun _ => 0))), (a 3, .inl (cy 0, 192, .inl (fun _ => 0))), (a 4, .inl (cy 0, 32, .inl (fun _ => 0))), (a 5, .inl (cy 0, 32, .inl (fun _ => 0))), (a 6, .inl (cy 0, 32, .inl (fun _ => 0))), (a 7, .inl (cy 0, 32, .inl (fun _ => (-1)))), (a 8, .inl (cy 0, 32, .inl (fun _ => 0))), (a 9, .inl (cy 0, 192, .inl (fun _ => (-1)))), (a 10, .inl (cy 0, 128, .inl (fun _ => (-1)))), (a 11, .inl (cy 0, 32, .inl (fun _ => 0))), (a 12, .inl (cy 0, 192, .inl (fun _ => 0))), (a 13, .inr (6, [.ref (a 14), .int 0, .int 0, .int 0])), (a 14, .inl (cy 0, 40, .inl (fun _ => 0))), (a 15, .inr (2, [.ref (a 16), .ref (a 17), .int 0, .int 0])), (a 16, .inl (cy 0, 16, .inl (fun _ => 0))), (a 17, .inl (cy 0, 16, .inl (fun _ => 0))), (a 18, .inr (2, [.ref (a 19), .ref (a 20), .int 0, .int 0])), (a 19, .inl (cy 0, 32, .inl (fun _ => 0))), (a 20, .inl (cy 0, 32, .inl (fun _ => 0))), (a 21, .inr (10, [.ref (a 22), .ref (a 1)])), (a 22, .inl (cy 1, 32, .inr (.inr (.inr (.inr (va_up (g 0) 0 (some (a 23)))))))), (a 23, .inr (4, [.int 1, .int 0, .int (-1), .int 0, .int 0, .int 0, .int 0, .int 0, .int 0, .int 0, .int 0, .int 0, .ref (a 61), .ref (a 62)])), (a 24, .inr (9, [.ref (a 21), .ref (a 25), .int 0, .int 0, .int 0, .int (-1), .int 0, .ref (a 26), .ref (a 27), .int 0, .ref (a 63), .ref (a 64), .int 0, .int 0, .int 0])), (a 25, .inl (cy 0, 400, .inl (fun _ => 0))), (a 26, .inl (cy 0, 33, .inl (fun _ => 0))), (a 27, .inl (cy 0, 33, .inl (fun _ => 0))), (a 28, .inr (3, [.ref (a 21), .ref (a 1), .ref (a 65), .int 0, .int 0, .int 0, .int 0, .ref (a 29), .ref (a 66), .int 0])), (a 29, .inl (cy 0, 15, .inl (fun _ => 0))), (a 30, .inr (5, [.ref (a 21), .ref (a 1), .ref (a 67), .ref (a 68)])), (a 31, .inr (7, [.ref (a 21), .ref (a 1), .ref (a 28), .ref (a 30), .ref (a 69)])), (a 32, .inr (1, [.ref (a 1), .ref (a 33), .ref (a 34), .int 0, .int 0])), (a 33, .inl (cy 2, 8, .inr (.inr (.inr (.inr (va_up (g 1) 0 (some (a 35)))))))), (a 34, .inl (cy 0, 8, .inl (fun _ => 0))), (a 35, .inr (8, [.int 1, .int 0, .int 0, .ref (a 36), .ref (a 37), .ref (a 38), .ref (a 39), .ref (a 40), .ref (a 41), .ref (a 42), .ref (a 43), .ref (a 44), .ref (a 45), .ref (a 46), .ref (a 47), .ref (a 49), .ref (a 52)])), (a 36, .inl (cy 0, 32, .inl (fun _ => 0))), (a 37, .inl (cy 0, 192, .inl (fun _ => 0))), (a 38, .inl (cy 0, 32, .inl (fun _ => 0))), (a 39, .inl (cy 0, 32, .inl (fun _ => 0))), (a 40, .inl (cy 0, 32, .inl (fun _ => 0))), (a 41, .inl (cy 0, 32, .inl (fun _ => (-1)))), (a 42, .inl (cy 0, 32, .inl (fun _ => 0))), (a 43, .inl (cy 0, 192, .inl (fun _ => (-1)))), (a 44, .inl (cy 0, 128, .inl (fun _ => (-1)))), (a 45, .inl (cy 0, 32, .inl (fun _ => 0))), (a 46, .inl (cy 0, 192, .inl (fun _ => 0))), (a 47, .inr (6, [.ref (a 48), .int 0, .int 0, .int 0])), (a 48, .inl (cy 0, 40, .inl (fun _ => 0))), (a 49, .inr (2, [.ref (a 50), .ref (a 51), .int 0, .int 0])), (a 50, .inl (cy 0, 16, .inl (fun _ => 0))), (a 51, .inl (cy 0, 16, .inl (fun _ => 0))), (a 52, .inr (2, [.ref (a 53), .ref (a 54), .int 0, .int 0])), (a 53, .inl (cy 0, 32, .inl (fun _ => 0))), (a 54, .inl (cy 0, 32, .inl (fun _ => 0))), (a 55, .inl (cy 0, 7, .inl (fun _ => 0))), (q3_, .inr (12, [.int 0, .int 0, .ref (u4_.1 0), .ref (u4_.1 1), .ref (u4_.1 2), .ref (u4_.1 3), .int 0, .ref (u4_.1 4), .ref (u4_.1 5), .int 0, .int 0, .int 0, .int (-1), .int 0, .ref (u4_.1 6), .ref (u4_.1 7), .int 0, .ref (u4_.1 8), .ref (u4_.1 9), .int 0, .int 0, .ref (u4_.1 10), .int 0, .int 0, .int 0, .int 0, .ref (u4_.1 11), .ref (u4_.1 12), .ref (u4_.1 13), .int 0, .ref (u4_.1 14), .int 0, .ref (u4_.1 15), .ref (u4_.1 16), .ref (u4_.1 17), .ref (u4_.1 18), .ref (u4_.1 19), .ref (u4_.1 20), .ref (u4_.1 21), .int 0, .int 0, .int 0, .int 0, .int 0, .int 0, .ref (u4_.1 22), .ref (u4_.1 23), .ref (u4_.1 24), .int 0, .int 0, .int 0, .ref (u4_.1 25), .int 0, .int 0, .ref (u4_.1 26), .ref (u4_.1 27), .ref (u4_.1 28), .ref (u4_.1 29), .int 0])), (u4_.1 0, .inl (cy 0, 8, .inl (fun _ => 0))), (u4_.1 1, .inl (cy 0, 3408, .inl (upd (upd (upd (fun _ => 0) 3264 1) 0 1) 2 (-1)))), (u4_.1 2, .inl (cy 0, 27264, .inl (fun _ => 0))), (u4_.1 3, .inl (cy 0, 8, .inl (fun _ => 0))), (u4_.1 4, .inl (cy 0, 3408, .inl (fun _ => 0))), (u4_.1 5, .inl (cy 0, 400, .inl (fun _ => 0))), (u4_.1 6, .inl (cy 0, 32, .inl (fun _ => 0)))]) H := hP
  have hD : va_D A ([(a 0, .inr (11, [.ref (a 1), .ref (a 60), .ref (a 21), .ref (a 24), .ref (a 28), .ref (a 30), .ref (a 31), .ref (a 32), .ref (a 55), .int 0, .int (-1)])), (a 1, .inr (8, [.int 1, .int 0, .int 0, .ref (a 2), .ref (a 3), .ref (a 4), .ref (a 5), .ref (a 6), .ref (a 7), .ref (a 8), .ref (a 9), .ref (a 10), .ref (a 11), .ref (a 12), .ref (a 13), .ref (a 15), .ref (a 18)])), (a 2, .inl (cy 0, 32, .inl (fun _ => 0))), (a 3, .inl (cy 0, 192, .inl (fun _ => 0))), (a 4, .inl (cy 0, 32, .inl (fun _ => 0))), (a 5, .inl (cy 0, 32, .inl (fun _ => 0))), (a 6, .inl (cy 0, 32, .inl (fun _ => 0))), (a 7, .inl (cy 0, 32, .inl (fun _ => (-1)))), (a 8, .inl (cy 0, 32, .inl (fun _ => 0))), (a 9, .inl (cy 0, 192, .inl (fun _ => (-1)))), (a 10, .inl (cy 0, 128, .inl (fun _ => (-1)))), (a 11, .inl (cy 0, 32, .inl (fun _ => 0))), (a 12, .inl (cy 0, 192, .inl (fun _ => 0))), (a 13, .inr (6, [.ref (a 14), .int 0, .int 0, .int 0])), (a 14, .inl (cy 0, 40, .inl (fun _ => 0))), (a 15, .inr (2, [.ref (a 16), .ref (a 17), .int 0, .int 0])), (a 16, .inl (cy 0, 16, .inl (fun _ => 0))), (a 17, .inl (cy 0, 16, .inl (fun _ => 0))), (a 18, .inr (2, [.ref (a 19), .ref (a 20), .int 0, .int 0])), (a 19, .inl (cy 0, 32, .inl (fun _ => 0))), (a 20, .inl (cy 0, 32, .inl (fun _ => 0))), (a 21, .inr (10, [.ref (a 22), .ref (a 1)])), (a 22, .inl (cy 1, 32, .inr (.inr (.inr (.inr (va_up (g 0) 0 (some (a 23)))))))), (a 23, .inr (4, [.int 1, .int 0, .int (-1), .int 0, .int 0, .int 0, .int 0, .int 0, .int 0, .int 0, .int 0, .int 0, .ref (a 61), .ref (a 62)])), (a 24, .inr (9, [.ref (a 21), .ref (a 25), .int 0, .int 0, .int 0, .int (-1), .int 0, .ref (a 26), .ref (a 27), .int 0, .ref (a 63), .ref (a 64), .int 0, .int 0, .int 0])), (a 25, .inl (cy 0, 400, .inl (fun _ => 0))), (a 26, .inl (cy 0, 33, .inl (fun _ => 0))), (a 27, .inl (cy 0, 33, .inl (fun _ => 0))), (a 28, .inr (3, [.ref (a 21), .ref (a 1), .ref (a 65), .int 0, .int 0, .int 0, .int 0, .ref (a 29), .ref (a 66), .int 0])), (a 29, .inl (cy 0, 15, .inl (fun _ => 0))), (a 30, .inr (5, [.ref (a 21), .ref (a 1), .ref (a 67), .ref (a 68)])), (a 31, .inr (7, [.ref (a 21), .ref (a 1), .ref (a 28), .ref (a 30), .ref (a 69)])), (a 32, .inr (1, [.ref (a 1), .ref (a 33), .ref (a 34), .int 0, .int 0])), (a 33, .inl (cy 2, 8, .inr (.inr (.inr (.inr (va_up (g 1) 0 (some (a 35)))))))), (a 34, .inl (cy 0, 8, .inl (fun _ => 0))), (a 35, .inr (8, [.int 1, .int 0, .int 0, .ref (a 36), .ref (a 37), .ref (a 38), .ref (a 39), .ref (a 40), .ref (a 41), .ref (a 42), .ref (a 43), .ref (a 44), .ref (a 45), .ref (a 46), .ref (a 47), .ref (a 49), .ref (a 52)])), (a 36, .inl (cy 0, 32, .inl (fun _ => 0))), (a 37, .inl (cy 0, 192, .inl (fun _ => 0))), (a 38, .inl (cy 0, 32, .inl (fun _ => 0))), (a 39, .inl (cy 0, 32, .inl (fun _ => 0))), (a 40, .inl (cy 0, 32, .inl (fun _ => 0))), (a 41, .inl (cy 0, 32, .inl (fun _ => (-1)))), (a 42, .inl (cy 0, 32, .inl (fun _ => 0))), (a 43, .inl (cy 0, 192, .inl (fun _ => (-1)))), (a 44, .inl (cy 0, 128, .inl (fun _ => (-1)))), (a 45, .inl (cy 0, 32, .inl (fun _ => 0))), (a 46, .inl (cy 0, 192, .inl (fun _ => 0))), (a 47, .inr (6, [.ref (a 48), .int 0, .int 0, .int 0])), (a 48, .inl (cy 0, 40, .inl (fun _ => 0))), (a 49, .inr (2, [.ref (a 50), .ref (a 51), .int 0, .int 0])), (a 50, .inl (cy 0, 16, .inl (fun _ => 0))), (a 51, .inl (cy 0, 16, .inl (fun _ => 0))), (a 52, .inr (2, [.ref (a 53), .ref (a 54), .int 0, .int 0])), (a 53, .inl (cy 0, 32, .inl (fun _ => 0))), (a 54, .inl (cy 0, 32, .inl (fun _ => 0))), (a 55, .inl (cy 0, 7, .inl (fun _ => 0))), (q3_, .inr (12, [.int 0, .int 0, .ref (u4_.1 0), .ref (u4_.1 1), .ref (u4_.1 2), .ref (u4_.1 3), .int 0, .ref (u4_.1 4), .ref (u4_.1 5), .int 0, .int 0, .int 0, .int (-1), .int 0, .ref (u4_.1 6), .ref (u4_.1 7), .int 0, .ref (u4_.1 8), .ref (u4_.1 9), .int 0, .int 0, .ref (u4_.1 10), .int 0, .int 0, .int 0, .int 0, .ref (u4_.1 11), .ref (u4_.1 12), .ref (u4_.1 13), .int 0, .ref (u4_.1 14), .int 0, .ref (u4_.1 15), .ref (u4_.1 16), .ref (u4_.1 17), .ref (u4_.1 18), .ref (u4_.1 19), .ref (u4_.1 20), .ref (u4_.1 21), .int 0, .int 0, .int 0, .int 0, .int 0, .int 0, .ref (u4_.1 22), .ref (u4_.1 23), .ref (u4_.1 24), .int 0, .int 0, .int 0, .ref (u4_.1 25), .int 0, .int 0, .ref (u4_.1 26), .ref (u4_.1 27), .ref (u4_.1 28), .ref (u4_.1 29), .int 0])), (u4_.1 0, .inl (cy 0, 8, .inl (fun _ => 0))), (u4_.1 1, .inl (cy 0, 3408, .inl (upd (upd (upd (fun _ => 0) 3264 1) 0 1) 2 (-1)))), (u4_.1 2, .inl (cy 0, 27264, .inl (fun _ => 0))), (u4_.1 3, .inl (cy 0, 8, .inl (fun _ => 0))), (u4_.1 4, .inl (cy 0, 3408, .inl (fun _ => 0))), (u4_.1 5, .inl (cy 0, 400, .inl (fun _ => 0))), (u4_.1 6, .inl (cy 0, 32, .inl (fun _ => 0)))]) := hD
  refine lv_astore_n (lv' := [(2, .ref q3_), (1, .ref (a 0)), (0, .ref sc)]) hx hb dL_law_15 rfl hl (by decide) rfl (fun ls hl => ?_)
  obtain ⟨b, hbe⟩ : ∃ b : Nat → Nat, b = fun k => [q3_, u4_.1 0, u4_.1 1, u4_.1 2, u4_.1 3, u4_.1 4, u4_.1 5, u4_.1 6, 0, 0, 0, 0, 0, 0, 0, 0, 0, 0, 0, 0, u4_.1 7, u4_.1 8, u4_.1 9, u4_.1 10, u4_.1 11, u4_.1 12, u4_.1 13, u4_.1 14, u4_.1 15, u4_.1 16, u4_.1 17, u4_.1 18, u4_.1 19, u4_.1 20, u4_.1 21, u4_.1 22, u4_.1 23, u4_.1 24, u4_.1 25, u4_.1 26, u4_.1 27, u4_.1 28, u4_.1 29].getD k 0 := ⟨_, rfl⟩
  have hP : va_P (dC, dI) vwCl (fw a cy g ++ mw b cy) H := by
    rw [hbe]
    exact hP
  have hD : va_D A (fw a cy g ++ mw b cy) := by
    rw [hbe]
    exact hD
  have eb : q3_ = b 0 := by
    rw [hbe]
    rfl
  have hl : lv_has ls 4 [(2, .ref (b 0)), (1, .ref (a 0)), (0, .ref sc)] := by
    rw [← eb]
    exact hl
  clear hP1 hD1
  refine lv_iconst (v := 0) hx hb dL_law_16 (by decide) ?_
  refine lv_istore_n (lv' := [(3, .int 0), (2, .ref (b 0)), (1, .ref (a 0)), (0, .ref sc)]) hx hb dL_law_17 rfl hl (by decide) rfl (fun ls hl => ?_)
  refine W.widen (k := 1000) (n := 100000) (Nat.le_of_ble_eq_true rfl) (Nat.le_of_ble_eq_true rfl) ?_
  rcases (show L = 0 ∨ L = 1 ∨ L = 2 ∨ L = 3 ∨ L = 4 ∨ L = 5 ∨ L = 6 by omega) with rfl | rfl | rfl | rfl | rfl | rfl | rfl
  · skip
    refine lv_iload_n hx hb dL_law_18 rfl (lv_at hl 0 rfl) ?_
    refine lv_aload_n hx hb dL_law_19 rfl (lv_at hl 3 rfl) ?_
    refine va_slen hx hb hX hbl hbA hS dL_law_20 ?_
    refine tk_i 0 (by decide) ?_
    refine lv_bipush (v := 6) hx hb dL_law_21 (by decide) ?_
    refine lv_isub hx hb dL_law_23 ?_
    refine tk_i (-6) (by decide) ?_
    refine lv_icmp_gt (tgt := 989) hx hb dL_law_24 (by decide) (fun _ => ?_) (fun c9_ => absurd (by decide) c9_)
    refine lv_iconst (v := 1) hx hb dL_law_989 (by decide) ?_
    refine va_forget (fun q hq => by have h := hS.2.2 q hq; rw [hAe] at h; exact h) ?_
    refine W.widen (k := 600000) (n := 7302249) (Nat.le_of_ble_eq_true rfl) (Nat.le_of_ble_eq_true rfl) ?_
    exact lw_ret hx hb hr hlocks dL_law_990
  · skip
    refine lv_iload_n hx hb dL_law_18 rfl (lv_at hl 0 rfl) ?_
    refine lv_aload_n hx hb dL_law_19 rfl (lv_at hl 3 rfl) ?_
    refine va_slen hx hb hX hbl hbA hS dL_law_20 ?_
    refine tk_i 1 (by decide) ?_
    refine lv_bipush (v := 6) hx hb dL_law_21 (by decide) ?_
    refine lv_isub hx hb dL_law_23 ?_
    refine tk_i (-5) (by decide) ?_
    refine lv_icmp_gt (tgt := 989) hx hb dL_law_24 (by decide) (fun _ => ?_) (fun c9_ => absurd (by decide) c9_)
    refine lv_iconst (v := 1) hx hb dL_law_989 (by decide) ?_
    refine va_forget (fun q hq => by have h := hS.2.2 q hq; rw [hAe] at h; exact h) ?_
    refine W.widen (k := 600000) (n := 7302249) (Nat.le_of_ble_eq_true rfl) (Nat.le_of_ble_eq_true rfl) ?_
    exact lw_ret hx hb hr hlocks dL_law_990
  · skip
    refine lv_iload_n hx hb dL_law_18 rfl (lv_at hl 0 rfl) ?_
    refine lv_aload_n hx hb dL_law_19 rfl (lv_at hl 3 rfl) ?_
    refine va_slen hx hb hX hbl hbA hS dL_law_20 ?_
    refine tk_i 2 (by decide) ?_
    refine lv_bipush (v := 6) hx hb dL_law_21 (by decide) ?_
    refine lv_isub hx hb dL_law_23 ?_
    refine tk_i (-4) (by decide) ?_
    refine lv_icmp_gt (tgt := 989) hx hb dL_law_24 (by decide) (fun _ => ?_) (fun c9_ => absurd (by decide) c9_)
    refine lv_iconst (v := 1) hx hb dL_law_989 (by decide) ?_
    refine va_forget (fun q hq => by have h := hS.2.2 q hq; rw [hAe] at h; exact h) ?_
    refine W.widen (k := 600000) (n := 7302249) (Nat.le_of_ble_eq_true rfl) (Nat.le_of_ble_eq_true rfl) ?_
    exact lw_ret hx hb hr hlocks dL_law_990
  · skip
    refine lv_iload_n hx hb dL_law_18 rfl (lv_at hl 0 rfl) ?_
    refine lv_aload_n hx hb dL_law_19 rfl (lv_at hl 3 rfl) ?_
    refine va_slen hx hb hX hbl hbA hS dL_law_20 ?_
    refine tk_i 3 (by decide) ?_
    refine lv_bipush (v := 6) hx hb dL_law_21 (by decide) ?_
    refine lv_isub hx hb dL_law_23 ?_
    refine tk_i (-3) (by decide) ?_
    refine lv_icmp_gt (tgt := 989) hx hb dL_law_24 (by decide) (fun _ => ?_) (fun c9_ => absurd (by decide) c9_)
    refine lv_iconst (v := 1) hx hb dL_law_989 (by decide) ?_
    refine va_forget (fun q hq => by have h := hS.2.2 q hq; rw [hAe] at h; exact h) ?_
    refine W.widen (k := 600000) (n := 7302249) (Nat.le_of_ble_eq_true rfl) (Nat.le_of_ble_eq_true rfl) ?_
    exact lw_ret hx hb hr hlocks dL_law_990
  · skip
    refine lv_iload_n hx hb dL_law_18 rfl (lv_at hl 0 rfl) ?_
    refine lv_aload_n hx hb dL_law_19 rfl (lv_at hl 3 rfl) ?_
    refine va_slen hx hb hX hbl hbA hS dL_law_20 ?_
    refine tk_i 4 (by decide) ?_
    refine lv_bipush (v := 6) hx hb dL_law_21 (by decide) ?_
    refine lv_isub hx hb dL_law_23 ?_
    refine tk_i (-2) (by decide) ?_
    refine lv_icmp_gt (tgt := 989) hx hb dL_law_24 (by decide) (fun _ => ?_) (fun c9_ => absurd (by decide) c9_)
    refine lv_iconst (v := 1) hx hb dL_law_989 (by decide) ?_
    refine va_forget (fun q hq => by have h := hS.2.2 q hq; rw [hAe] at h; exact h) ?_
    refine W.widen (k := 600000) (n := 7302249) (Nat.le_of_ble_eq_true rfl) (Nat.le_of_ble_eq_true rfl) ?_
    exact lw_ret hx hb hr hlocks dL_law_990
  · skip
    refine lv_iload_n hx hb dL_law_18 rfl (lv_at hl 0 rfl) ?_
    refine lv_aload_n hx hb dL_law_19 rfl (lv_at hl 3 rfl) ?_
    refine va_slen hx hb hX hbl hbA hS dL_law_20 ?_
    refine tk_i 5 (by decide) ?_
    refine lv_bipush (v := 6) hx hb dL_law_21 (by decide) ?_
    refine lv_isub hx hb dL_law_23 ?_
    refine tk_i (-1) (by decide) ?_
    refine lv_icmp_gt (tgt := 989) hx hb dL_law_24 (by decide) (fun _ => ?_) (fun c9_ => absurd (by decide) c9_)
    refine lv_iconst (v := 1) hx hb dL_law_989 (by decide) ?_
    refine va_forget (fun q hq => by have h := hS.2.2 q hq; rw [hAe] at h; exact h) ?_
    refine W.widen (k := 600000) (n := 7302249) (Nat.le_of_ble_eq_true rfl) (Nat.le_of_ble_eq_true rfl) ?_
    exact lw_ret hx hb hr hlocks dL_law_990
  · skip
    obtain ⟨x0, ex0⟩ : ∃ z : Int32, xs (Int32.toNatClampNeg 0) = z := ⟨_, rfl⟩
    obtain ⟨x1, ex1⟩ : ∃ z : Int32, xs (Int32.toNatClampNeg 1) = z := ⟨_, rfl⟩
    obtain ⟨x2, ex2⟩ : ∃ z : Int32, xs (Int32.toNatClampNeg 2) = z := ⟨_, rfl⟩
    obtain ⟨x3, ex3⟩ : ∃ z : Int32, xs (Int32.toNatClampNeg 3) = z := ⟨_, rfl⟩
    obtain ⟨x4, ex4⟩ : ∃ z : Int32, xs (Int32.toNatClampNeg 4) = z := ⟨_, rfl⟩
    obtain ⟨x5, ex5⟩ : ∃ z : Int32, xs (Int32.toNatClampNeg 5) = z := ⟨_, rfl⟩
    refine lv_iload_n hx hb dL_law_18 rfl (lv_at hl 0 rfl) ?_
    refine lv_aload_n hx hb dL_law_19 rfl (lv_at hl 3 rfl) ?_
    refine va_slen hx hb hX hbl hbA hS dL_law_20 ?_
    refine tk_i 6 (by decide) ?_
    refine lv_bipush (v := 6) hx hb dL_law_21 (by decide) ?_
    refine lv_isub hx hb dL_law_23 ?_
    refine tk_i 0 (by decide) ?_
    refine lv_icmp_gt (tgt := 989) hx hb dL_law_24 (by decide) (fun c9_ => absurd c9_ (by decide)) (fun _ => ?_)
    refine lv_aload_n hx hb dL_law_27 rfl (lv_at hl 3 rfl) ?_
    refine lv_iload_n hx hb dL_law_28 rfl (lv_at hl 0 rfl) ?_
    refine va_sld hx hb hX hbl hbA hS (show ¬ ((0 : Int32) < 0 ∨ 6 ≤ Int32.toNatClampNeg 0) by decide) dL_law_29 ?_
    refine tk_i x0 ex0 ?_
    refine lv_bipush (v := 31) hx hb dL_law_30 (by decide) ?_
    refine lv_iand hx hb dL_law_32 ?_
    refine lv_topi (fun k_ ek_ => ?_)
    by_cases c5_ : k_ = 0
    · skip
      subst c5_
      refine lv_tableIn (off := 131) (tgt := 164) hx hb dL_law_33 (by decide) (by decide) (by decide) (by decide) ?_
      exact lawc_0 l hAe C0 hC hP hD hS hl
    by_cases c6_ : k_ = 1
    · skip
      subst c6_
      refine lv_tableIn (off := 194) (tgt := 227) hx hb dL_law_33 (by decide) (by decide) (by decide) (by decide) ?_
      exact lawc_1 l hAe C0 hC hP hD hS hl
    by_cases c7_ : k_ = 2
    · skip
      subst c7_
      refine lv_tableIn (off := 217) (tgt := 250) hx hb dL_law_33 (by decide) (by decide) (by decide) (by decide) ?_
      exact lawc_2 l hAe C0 hC hP hD hS hl
    by_cases c8_ : k_ = 3
    · skip
      subst c8_
      refine lv_tableIn (off := 240) (tgt := 273) hx hb dL_law_33 (by decide) (by decide) (by decide) (by decide) ?_
      exact lawc_3 l hAe C0 hC hP hD hS hl
    by_cases c9_ : k_ = 4
    · skip
      subst c9_
      refine lv_tableIn (off := 253) (tgt := 286) hx hb dL_law_33 (by decide) (by decide) (by decide) (by decide) ?_
      exact lawc_4 l hAe C0 hC hP hD hS hl
    by_cases c10_ : k_ = 5
    · skip
      subst c10_
      refine lv_tableIn (off := 306) (tgt := 339) hx hb dL_law_33 (by decide) (by decide) (by decide) (by decide) ?_
      exact lawc_5 l hAe C0 hC hP hD hS hl
    by_cases c11_ : k_ = 6
    · skip
      subst c11_
      refine lv_tableIn (off := 339) (tgt := 372) hx hb dL_law_33 (by decide) (by decide) (by decide) (by decide) ?_
      exact lawc_6 l hAe C0 hC hP hD hS hl
    by_cases c12_ : k_ = 7
    · skip
      subst c12_
      refine lv_tableIn (off := 372) (tgt := 405) hx hb dL_law_33 (by decide) (by decide) (by decide) (by decide) ?_
      exact lawc_7 l hAe C0 hC hP hD hS hl
    by_cases c13_ : k_ = 8
    · skip
      subst c13_
      refine lv_tableIn (off := 395) (tgt := 428) hx hb dL_law_33 (by decide) (by decide) (by decide) (by decide) ?_
      exact lawc_8 l hAe C0 hC hP hD hS hl
    by_cases c14_ : k_ = 9
    · skip
      subst c14_
      refine lv_tableIn (off := 418) (tgt := 451) hx hb dL_law_33 (by decide) (by decide) (by decide) (by decide) ?_
      exact lawc_9 l hAe C0 hC hP hD hS hl
    by_cases c15_ : k_ = 10
    · skip
      subst c15_
      refine lv_tableIn (off := 441) (tgt := 474) hx hb dL_law_33 (by decide) (by decide) (by decide) (by decide) ?_
      exact lawc_10 l hAe C0 hC hP hD hS hl
    by_cases c16_ : k_ = 11
    · skip
      subst c16_
      refine lv_tableIn (off := 464) (tgt := 497) hx hb dL_law_33 (by decide) (by decide) (by decide) (by decide) ?_
      exact lawc_11 l hAe C0 hC hP hD hS hl
    by_cases c17_ : k_ = 12
    · skip
      subst c17_
      refine lv_tableIn (off := 487) (tgt := 520) hx hb dL_law_33 (by decide) (by decide) (by decide) (by decide) ?_
      exact lawc_12 l hAe C0 hC hP hD hS hl
    by_cases c18_ : k_ = 13
    · skip
      subst c18_
      refine lv_tableIn (off := 500) (tgt := 533) hx hb dL_law_33 (by decide) (by decide) (by decide) (by decide) ?_
      exact lawc_13 l hAe C0 hC hP hD hS hl
    by_cases c19_ : k_ = 14
    · skip
      subst c19_
      refine lv_tableIn (off := 533) (tgt := 566) hx hb dL_law_33 (by decide) (by decide) (by decide) (by decide) ?_
      exact lawc_14 l hAe C0 hC hP hD hS hl
    by_cases c20_ : k_ = 15
    · skip
      subst c20_
      refine lv_tableIn (off := 566) (tgt := 599) hx hb dL_law_33 (by decide) (by decide) (by decide) (by decide) ?_
      exact lawc_15 l hAe C0 hC hP hD hS hl
    by_cases c21_ : k_ = 16
    · skip
      subst c21_
      refine lv_tableIn (off := 599) (tgt := 632) hx hb dL_law_33 (by decide) (by decide) (by decide) (by decide) ?_
      exact lawc_16 l hAe C0 hC hP hD hS hl
    by_cases c22_ : k_ = 17
    · skip
      subst c22_
      refine lv_tableIn (off := 632) (tgt := 665) hx hb dL_law_33 (by decide) (by decide) (by decide) (by decide) ?_
      exact lawc_17 l hAe C0 hC hP hD hS hl
    by_cases c23_ : k_ = 18
    · skip
      subst c23_
      refine lv_tableIn (off := 656) (tgt := 689) hx hb dL_law_33 (by decide) (by decide) (by decide) (by decide) ?_
      exact lawc_18 l hAe C0 hC hP hD hS hl
    by_cases c24_ : k_ = 19
    · skip
      subst c24_
      refine lv_tableIn (off := 680) (tgt := 713) hx hb dL_law_33 (by decide) (by decide) (by decide) (by decide) ?_
      exact lawc_19 l hAe C0 hC hP hD hS hl
    by_cases c25_ : k_ = 20
    · skip
      subst c25_
      refine lv_tableIn (off := 693) (tgt := 726) hx hb dL_law_33 (by decide) (by decide) (by decide) (by decide) ?_
      exact lawc_20 l hAe C0 hC hP hD hS hl
    by_cases c26_ : k_ = 21
    · skip
      subst c26_
      refine lv_tableIn (off := 716) (tgt := 749) hx hb dL_law_33 (by decide) (by decide) (by decide) (by decide) ?_
      exact lawc_21 l hAe C0 hC hP hD hS hl
    by_cases c27_ : k_ = 22
    · skip
      subst c27_
      refine lv_tableIn (off := 739) (tgt := 772) hx hb dL_law_33 (by decide) (by decide) (by decide) (by decide) ?_
      exact lawc_22 l hAe C0 hC hP hD hS hl
    by_cases c28_ : k_ = 23
    · skip
      subst c28_
      refine lv_tableIn (off := 762) (tgt := 795) hx hb dL_law_33 (by decide) (by decide) (by decide) (by decide) ?_
      exact lawc_23 l hAe C0 hC hP hD hS hl
    by_cases c29_ : k_ = 24
    · skip
      subst c29_
      refine lv_tableIn (off := 825) (tgt := 858) hx hb dL_law_33 (by decide) (by decide) (by decide) (by decide) ?_
      exact lawc_24 l hAe C0 hC hP hD hS hl
    by_cases c30_ : k_ = 25
    · skip
      subst c30_
      refine lv_tableIn (off := 848) (tgt := 881) hx hb dL_law_33 (by decide) (by decide) (by decide) (by decide) ?_
      exact lawc_25 l hAe C0 hC hP hD hS hl
    by_cases c31_ : k_ = 26
    · skip
      subst c31_
      refine lv_tableIn (off := 881) (tgt := 914) hx hb dL_law_33 (by decide) (by decide) (by decide) (by decide) ?_
      exact lawc_26 l hAe C0 hC hP hD hS hl
    by_cases c32_ : k_ = 27
    · skip
      subst c32_
      refine lv_tableIn (off := 914) (tgt := 947) hx hb dL_law_33 (by decide) (by decide) (by decide) (by decide) ?_
      exact lawc_27 l hAe C0 hC hP hD hS hl
    by_cases c33_ : k_ = 28
    · skip
      subst c33_
      refine lv_tableIn (off := 937) (tgt := 970) hx hb dL_law_33 (by decide) (by decide) (by decide) (by decide) ?_
      exact lawc_28 l hAe C0 hC hP hD hS hl
    have e34_ : k_.toInt < 0 ∨ 28 < k_.toInt := by
      have z0_ := tz_neq_r c5_ (show (0 : Int32).toInt = 0 by decide)
      have z1_ := tz_neq_r c6_ (show (1 : Int32).toInt = 1 by decide)
      have z2_ := tz_neq_r c7_ (show (2 : Int32).toInt = 2 by decide)
      have z3_ := tz_neq_r c8_ (show (3 : Int32).toInt = 3 by decide)
      have z4_ := tz_neq_r c9_ (show (4 : Int32).toInt = 4 by decide)
      have z5_ := tz_neq_r c10_ (show (5 : Int32).toInt = 5 by decide)
      have z6_ := tz_neq_r c11_ (show (6 : Int32).toInt = 6 by decide)
      have z7_ := tz_neq_r c12_ (show (7 : Int32).toInt = 7 by decide)
      have z8_ := tz_neq_r c13_ (show (8 : Int32).toInt = 8 by decide)
      have z9_ := tz_neq_r c14_ (show (9 : Int32).toInt = 9 by decide)
      have z10_ := tz_neq_r c15_ (show (10 : Int32).toInt = 10 by decide)
      have z11_ := tz_neq_r c16_ (show (11 : Int32).toInt = 11 by decide)
      have z12_ := tz_neq_r c17_ (show (12 : Int32).toInt = 12 by decide)
      have z13_ := tz_neq_r c18_ (show (13 : Int32).toInt = 13 by decide)
      have z14_ := tz_neq_r c19_ (show (14 : Int32).toInt = 14 by decide)
      have z15_ := tz_neq_r c20_ (show (15 : Int32).toInt = 15 by decide)
      have z16_ := tz_neq_r c21_ (show (16 : Int32).toInt = 16 by decide)
      have z17_ := tz_neq_r c22_ (show (17 : Int32).toInt = 17 by decide)
      have z18_ := tz_neq_r c23_ (show (18 : Int32).toInt = 18 by decide)
      have z19_ := tz_neq_r c24_ (show (19 : Int32).toInt = 19 by decide)
      have z20_ := tz_neq_r c25_ (show (20 : Int32).toInt = 20 by decide)
      have z21_ := tz_neq_r c26_ (show (21 : Int32).toInt = 21 by decide)
      have z22_ := tz_neq_r c27_ (show (22 : Int32).toInt = 22 by decide)
      have z23_ := tz_neq_r c28_ (show (23 : Int32).toInt = 23 by decide)
      have z24_ := tz_neq_r c29_ (show (24 : Int32).toInt = 24 by decide)
      have z25_ := tz_neq_r c30_ (show (25 : Int32).toInt = 25 by decide)
      have z26_ := tz_neq_r c31_ (show (26 : Int32).toInt = 26 by decide)
      have z27_ := tz_neq_r c32_ (show (27 : Int32).toInt = 27 by decide)
      have z28_ := tz_neq_r c33_ (show (28 : Int32).toInt = 28 by decide)
      omega
    refine lv_tableOut (tgt := 983) hx hb dL_law_33 e34_ (by decide) ?_
    refine lv_iinc (v := 6) (lv' := [(3, .int 6), (2, .ref (b 0)), (1, .ref (a 0)), (0, .ref sc)]) hx hb dL_law_983 hl (k := 0) rfl (by decide) (by decide) rfl (fun ls hl => ?_)
    refine lv_goto (tgt := 18) hx hb dL_law_986 (by decide) ?_
    refine lv_iload_n hx hb dL_law_18 rfl (lv_at hl 0 rfl) ?_
    refine lv_aload_n hx hb dL_law_19 rfl (lv_at hl 3 rfl) ?_
    refine va_slen hx hb hX hbl hbA hS dL_law_20 ?_
    refine tk_i 6 (by decide) ?_
    refine lv_bipush (v := 6) hx hb dL_law_21 (by decide) ?_
    refine lv_isub hx hb dL_law_23 ?_
    refine tk_i 0 (by decide) ?_
    refine lv_icmp_gt (tgt := 989) hx hb dL_law_24 (by decide) (fun _ => ?_) (fun c9_ => absurd (by decide) c9_)
    refine lv_iconst (v := 1) hx hb dL_law_989 (by decide) ?_
    refine va_forget (fun q hq => by have h := hS.2.2 q hq; rw [hAe] at h; exact h) ?_
    refine W.widen (k := 600000) (n := 7302249) (Nat.le_of_ble_eq_true rfl) (Nat.le_of_ble_eq_true rfl) ?_
    exact lw_ret hx hb hr hlocks dL_law_990
-- ===== YOUR PART ENDS =====
set_option maxHeartbeats 4000000 in
theorem lw_walk (l : Launch) (hflags : l.flags = flags0) (b : Addr) (xs : List Int32) : MetFree l x (headSpec (Jvm.Cond.code x code maxLocals ret :: tables_1) room_1) (lw_P b xs) (fun _ _ _ _ _ => True) lw_Q := by
  refine MetFree.of_bodyS (code := code) (maxLocals := maxLocals) (ret := ret) (by decide) ?_ ?_
  · intro args s m h hn
    obtain ⟨meth, c, h1, h2, h3, h4, h5, h6, -, -⟩ := Cond.code_spec hn (atoms_spec (ws := Jvm.Cond.code x code maxLocals ret :: tables_1) h _ List.mem_cons_self)
    exact ⟨meth, c, h1, h2, h3, h4, h5, h6⟩
  · intro p e s m args below meth c s₁ B hml0 hP _
    obtain ⟨rfl, hx, hbd, hgv⟩ := hP
    obtain ⟨scr, harrAt, hlist, hof, hsmall⟩ := hx
    obtain ⟨hcb, hkn, -, -⟩ := State.arrayAt?_spec harrAt
    have hown : s.vm.findClass R_law = some m.cls := findClass_of_methodNamed B.named
    have hts0 : ∀ c ∈ (Jvm.Cond.code x code maxLocals ret :: tables_1), c.before #[Value.ref b] s = true := atoms_spec (ws := Jvm.Cond.code x code maxLocals ret :: tables_1) B.pre
    have hts : ∀ w ∈ lw_tbl, w.before #[Value.ref b] s = true := k2_hts_sels lw_privs (fun w hw => hts0 w (List.mem_cons_of_mem _ hw)) lw_privs_ok
    have hml : c.maxLocals = 4 := B.maxLocals_eq (hts0 _ List.mem_cons_self)
    have X₀ : Stand p l e room_1 s m #[Value.ref b] below meth c s₁ [] 0 0 := Stand.of_body B
    have hh0 : s₁.heap = s.heap := by rw [B.state]; rfl
    have hsz : scr.slots.size = xs.length := by rw [← Array.length_toList, hlist, List.length_map]
    have hval : ∀ j : Nat, j < xs.length → scr.slots[j]? = some (.int (xs.getD j 0)) := fun j hj => by
      rw [← Array.getElem?_toList, hlist]
      simp [hj]
    have hbl : b < s.heap.size := (Array.getElem?_eq_some_iff.mp hcb).1
    have hX : va_X b xs.length (fun j => xs.getD j 0) s s.heap := ⟨scr, hcb, hof, hkn, hsz, hval⟩
    have K : W p l e room_1 s m #[Value.ref b] below meth c s₁.heap [] 0 0 (lw_Z below #[Value.ref b] s) (entryFrame m ([Value.ref b] : List Value).toArray 4) := by
      rw [hh0]
      exact whole_start l hflags hbd ⟨B.exec, B.bytes, B.returns, hml, hown, hts, hX, hbl, B.notSynchronized, hgv⟩
    obtain ⟨t, a1, o, b1, b2, b3⟩ := K s₁ rfl X₀
    exact ⟨t, o, a1, b1, b2, b3⟩
theorem lw_pre_spec {args : Array Value} {s : State} (h : (Jvm.Cond.and given_1 narrow_1).before args s = true) (hr : rest_1_c.before args s = true) : ∃ (b : Addr) (xs : List Int32), lw_P b xs args s := by
  have hs := flat_of_before _ h
  have hq := flat_of_before _ hr
  have hc : (Cond.count 1).before args s = true := hs _ (by decide +kernel)
  have harr : (Cond.arrayOf (.arg 0) .int).before args s = true := hs _ (by decide +kernel)
  have hle : (Cond.le (.length (.arg 0)) (.int 6)).before args s = true := hs _ (by decide +kernel)
  have hlen : (Cond.isInt (.length (.arg 0))).before args s = true := hq _ (by decide +kernel)
  have hall : (Cond.all (.arg 0) (.isInt (.elem (.arg 0) (.index 0)))).before args s = true := hq _ (by decide +kernel)
  obtain ⟨b, xs, hb, hx⟩ := State.ints_of_pre rfl harr hlen hall
  have hsm : xs.length < 2 ^ 31 := hx.choose_spec.2.2.2
  have hev : (Term.length (.arg 0)).eval args s none [] s = some (.int xs.length.toInt32) := hx.length_eval hb
  have hv := Cond.le_ints hev (show (Term.int 6).eval args s none [] s = some (.int 6) from rfl)
  have hd : xs.length.toInt32 ≤ 6 := by
    simpa [Cond.before, Cond.holds, hv] using hle
  have hN : xs.length ≤ 6 := (Int32.ofNat_le_ofNat hsm (by decide)).mp (show Int32.ofNat xs.length ≤ Int32.ofNat 6 from hd)
  exact ⟨b, xs, Cond.one_arg hc (show args[0]? = some (.ref b) from hb), hx, hN, h⟩
theorem lw_comes (l : Launch) (hflags : l.flags = flags0) : Comes l x (Jvm.Cond.code x code maxLocals ret :: tables_1) room_1 (fun tb e args s => Calls_1 tb e args s ∧ rest_1 tb e args s ∧ Pre_1 tb e args s)
    (fun _ _ args s o t => lw_Q args s o t) := by
  intro p e ha hc hk s m args below hf hfit hheap happ hpre
  obtain ⟨b, xs, hP⟩ := lw_pre_spec hpre.2.2 hpre.2.1
  obtain ⟨k, o, h1, h2, h3, hQ⟩ := lw_walk l hflags b xs p e ha hc hk s m args below hf ((Spec.applies_iff_loose hf).mp happ).1 hP trivial
  exact ⟨k, o, h1, h2, h3, hQ⟩
theorem lw_frame {s t : State} {o : Outcome} {args : Array Value} (h : Framed s o t [] 600000 7302249) :
    Framed s o t (fieldLocs frame_1_writes args s ++ arrayLocs frame_1_arrays args s ++ staticLocs frame_1_statics s) 600000 7302249 := h
theorem lw_limb (L : Cond) (hL : ∀ (args : Array Value) (s t : State), L.after args s (.returned (some (.int 1))) t = true) :
    ArmFor flags0 classFile x code maxLocals ret World_1 tables_1 room_1 Calls_1 rest_1 Pre_1
      (fun tb e a s o t => postC L tb e a s o t ∧ Framed s o t (fieldLocs frame_1_writes a s ++ arrayLocs frame_1_arrays a s ++ staticLocs frame_1_statics s) 600000 7302249) := by
  intro l hflags _ _ p e ha hc hk s m args below hf hfit hheap happ hpre
  obtain ⟨k, o, h1, h2, h3, rfl, hF⟩ := lw_comes l hflags p e ha hc hk s m args below hf hfit hheap happ hpre
  exact ⟨k, _, h1, h2, h3, hL args s _, lw_frame hF⟩
theorem i_vc : Claimed_1_1 ∧ Claimed_1_2 := ⟨lw_limb limb_1_1 (fun args s t => by simp [limb_1_1, Cond.after, Cond.holds, Cond.value]), lw_limb limb_1_2 (fun args s t => Cond.after_iff.mpr (by
  first | (rw [show limb_1_2 = Cond.eq .result (.int 1) from rfl, Cond.eq_ints (x := 1) (y := 1) rfl rfl]; simp; done) | (simp [limb_1_2, Cond.value, Term.eval]; done)))⟩

