theorem dX12_four_0 : decode cX12_four 0 = .ok (.bipush 24, 2) := by decide +kernel
theorem dX12_four_2 : decode cX12_four 2 = .ok (.istore_n 2, 1) := by decide +kernel
theorem dX12_four_3 : decode cX12_four 3 = .ok (.iload_n 2, 1) := by decide +kernel
theorem dX12_four_4 : decode cX12_four 4 = .ok (.ifCond .lt 35, 3) := by decide +kernel
theorem dX12_four_7 : decode cX12_four 7 = .ok (.aload_n 0, 1) := by decide +kernel
theorem dX12_four_8 : decode cX12_four 8 = .ok (.getfield 25, 3) := by decide +kernel
theorem dX12_four_11 : decode cX12_four 11 = .ok (.aload_n 0, 1) := by decide +kernel
theorem dX12_four_12 : decode cX12_four 12 = .ok (.getfield 153, 3) := by decide +kernel
theorem dX12_four_15 : decode cX12_four 15 = .ok (.iload_n 1, 1) := by decide +kernel
theorem dX12_four_16 : decode cX12_four 16 = .ok (.iload_n 2, 1) := by decide +kernel
theorem dX12_four_17 : decode cX12_four 17 = .ok (.ishr, 1) := by decide +kernel
theorem dX12_four_18 : decode cX12_four 18 = .ok (.sipush 255, 3) := by decide +kernel
theorem dX12_four_21 : decode cX12_four 21 = .ok (.iand, 1) := by decide +kernel
theorem dX12_four_22 : decode cX12_four 22 = .ok (.iastore, 1) := by decide +kernel
theorem dX12_four_23 : decode cX12_four 23 = .ok (.aload_n 0, 1) := by decide +kernel
theorem dX12_four_24 : decode cX12_four 24 = .ok (.dup, 1) := by decide +kernel
theorem dX12_four_25 : decode cX12_four 25 = .ok (.getfield 153, 3) := by decide +kernel
theorem dX12_four_28 : decode cX12_four 28 = .ok (.iconst 1, 1) := by decide +kernel
theorem dX12_four_29 : decode cX12_four 29 = .ok (.iadd, 1) := by decide +kernel
theorem dX12_four_30 : decode cX12_four 30 = .ok (.putfield 153, 3) := by decide +kernel
theorem dX12_four_33 : decode cX12_four 33 = .ok (.iinc 2 (-8), 3) := by decide +kernel
theorem dX12_four_36 : decode cX12_four 36 = .ok (.goto (-33), 3) := by decide +kernel
theorem dX12_four_39 : decode cX12_four 39 = .ok (.return_, 1) := by decide +kernel
def v_X12_four : List Cond := .code yX12_four cX12_four 3 none :: ([.fieldLink RX12 25 "RestBoardModel" "tape" "[I", .fieldLink RX12 153 "RestBoardModel" "taped" "I"] ++ wsX120)
theorem m_X12_four_0 : (.fieldLink RX12 25 "RestBoardModel" "tape" "[I" : Cond) ∈ v_X12_four := List.mem_of_getElem? (i := 1) (by decide +kernel)
theorem m_X12_four_1 : (.fieldLink RX12 153 "RestBoardModel" "taped" "I" : Cond) ∈ v_X12_four := List.mem_of_getElem? (i := 2) (by decide +kernel)
theorem i_X12_four_X12 : ∀ w ∈ u_ws RX12 TX12 59, w ∈ v_X12_four := fun w h => List.mem_cons_of_mem _ (List.mem_append_right _ h)
set_option maxHeartbeats 4000000 in
set_option maxRecDepth 100000 in
theorem c_X12_four_0 (l : Launch) (dC : Nat → ClassId) (dI : Nat → Nat → Nat) (cy : Nat → ClassId) (b : Nat → Nat) (f : Nat → Int32) (sz : Nat) (p0 : Int32) : Met l yX12_four v_X12_four ({ frames := 0, cells := 0, slots := 0, locals := 0 }) (va_Pc [.ref (b 0), .int p0] (ps dC dI cy ([(b 0, .inr (12, [.int 0, .int 0, .ref (b 1), .ref (b 2), .ref (b 3), .ref (b 4), .int 0, .ref (b 5), .ref (b 6), .int 0, .int 0, .int 0, .int (-1), .int 0, .ref (b 7), .ref (b 20), .int 0, .ref (b 21), .ref (b 22), .int 0, .int 0, .ref (b 23), .int 0, .int 0, .int 0, .int 0, .ref (b 24), .ref (b 25), .ref (b 26), .int 0, .ref (b 27), .int 0, .ref (b 28), .ref (b 29), .ref (b 30), .ref (b 31), .ref (b 32), .ref (b 33), .ref (b 34), .int 0, .int 0, .int 0, .int 0, .int 0, .int 0, .ref (b 35), .ref (b 36), .ref (b 37), .int 0, .int 0, .int 0, .ref (b 38), .int 0, .int 0, .ref (b 39), .ref (b 40), .ref (b 41), .ref (b 42), .int 0])), (b 6, .inl (cy 0, 400, .inl f))]) sz)) (va_Qv (fun (_ : uS) => True) (fun (u : uS) (t : State) => va_P (dC, dI) vwCl ([(b 0, .inr (12, [.int 0, .int 0, .ref (b 1), .ref (b 2), .ref (b 3), .ref (b 4), .int 0, .ref (b 5), .ref (b 6), .int 4, .int 0, .int 0, .int (-1), .int 0, .ref (b 7), .ref (b 20), .int 0, .ref (b 21), .ref (b 22), .int 0, .int 0, .ref (b 23), .int 0, .int 0, .int 0, .int 0, .ref (b 24), .ref (b 25), .ref (b 26), .int 0, .ref (b 27), .int 0, .ref (b 28), .ref (b 29), .ref (b 30), .ref (b 31), .ref (b 32), .ref (b 33), .ref (b 34), .int 0, .int 0, .int 0, .int 0, .int 0, .int 0, .ref (b 35), .ref (b 36), .ref (b 37), .int 0, .int 0, .int 0, .ref (b 38), .int 0, .int 0, .ref (b 39), .ref (b 40), .ref (b 41), .ref (b 42), .int 0])), (b 6, .inl (cy 0, 400, .inl (u.2.1 0)))]) t.heap ∧ va_D (va_A ([(b 0, .inr (12, [.int 0, .int 0, .ref (b 1), .ref (b 2), .ref (b 3), .ref (b 4), .int 0, .ref (b 5), .ref (b 6), .int 0, .int 0, .int 0, .int (-1), .int 0, .ref (b 7), .ref (b 20), .int 0, .ref (b 21), .ref (b 22), .int 0, .int 0, .ref (b 23), .int 0, .int 0, .int 0, .int 0, .ref (b 24), .ref (b 25), .ref (b 26), .int 0, .ref (b 27), .int 0, .ref (b 28), .ref (b 29), .ref (b 30), .ref (b 31), .ref (b 32), .ref (b 33), .ref (b 34), .int 0, .int 0, .int 0, .int 0, .int 0, .int 0, .ref (b 35), .ref (b 36), .ref (b 37), .int 0, .int 0, .int 0, .ref (b 38), .int 0, .int 0, .ref (b 39), .ref (b 40), .ref (b 41), .ref (b 42), .int 0])), (b 6, .inl (cy 0, 400, .inl f))]) sz) ([(b 0, .inr (12, [.int 0, .int 0, .ref (b 1), .ref (b 2), .ref (b 3), .ref (b 4), .int 0, .ref (b 5), .ref (b 6), .int 4, .int 0, .int 0, .int (-1), .int 0, .ref (b 7), .ref (b 20), .int 0, .ref (b 21), .ref (b 22), .int 0, .int 0, .ref (b 23), .int 0, .int 0, .int 0, .int 0, .ref (b 24), .ref (b 25), .ref (b 26), .int 0, .ref (b 27), .int 0, .ref (b 28), .ref (b 29), .ref (b 30), .ref (b 31), .ref (b 32), .ref (b 33), .ref (b 34), .int 0, .int 0, .int 0, .int 0, .int 0, .int 0, .ref (b 35), .ref (b 36), .ref (b 37), .int 0, .int 0, .int 0, .ref (b 38), .int 0, .int 0, .ref (b 39), .ref (b 40), .ref (b 41), .ref (b 42), .int 0])), (b 6, .inl (cy 0, 400, .inl (u.2.1 0)))])) (va_A ([(b 0, .inr (12, [.int 0, .int 0, .ref (b 1), .ref (b 2), .ref (b 3), .ref (b 4), .int 0, .ref (b 5), .ref (b 6), .int 0, .int 0, .int 0, .int (-1), .int 0, .ref (b 7), .ref (b 20), .int 0, .ref (b 21), .ref (b 22), .int 0, .int 0, .ref (b 23), .int 0, .int 0, .int 0, .int 0, .ref (b 24), .ref (b 25), .ref (b 26), .int 0, .ref (b 27), .int 0, .ref (b 28), .ref (b 29), .ref (b 30), .ref (b 31), .ref (b 32), .ref (b 33), .ref (b 34), .int 0, .int 0, .int 0, .int 0, .int 0, .int 0, .ref (b 35), .ref (b 36), .ref (b 37), .int 0, .int 0, .int 0, .ref (b 38), .int 0, .int 0, .ref (b 39), .ref (b 40), .ref (b 41), .ref (b 42), .int 0])), (b 6, .inl (cy 0, 400, .inl f))]) sz)) 0 0 (va_A ([(b 0, .inr (12, [.int 0, .int 0, .ref (b 1), .ref (b 2), .ref (b 3), .ref (b 4), .int 0, .ref (b 5), .ref (b 6), .int 0, .int 0, .int 0, .int (-1), .int 0, .ref (b 7), .ref (b 20), .int 0, .ref (b 21), .ref (b 22), .int 0, .int 0, .ref (b 23), .int 0, .int 0, .int 0, .int 0, .ref (b 24), .ref (b 25), .ref (b 26), .int 0, .ref (b 27), .int 0, .ref (b 28), .ref (b 29), .ref (b 30), .ref (b 31), .ref (b 32), .ref (b 33), .ref (b 34), .int 0, .int 0, .int 0, .int 0, .int 0, .int 0, .ref (b 35), .ref (b 36), .ref (b 37), .int 0, .int 0, .int 0, .ref (b 38), .int 0, .int 0, .ref (b 39), .ref (b 40), .ref (b 41), .ref (b 42), .int 0])), (b 6, .inl (cy 0, 400, .inl f))]) sz) := by
  refine Met.ofW (cc := cX12_four) (maxL := 3) (ret := none) (by decide) rfl ?_
  intro p e s m args below meth c s₁ B hml hv
  obtain ⟨rfl, hsz, hP, hC, hD0⟩ := hv
  have hK := hC.1
  have hx := B.exec
  have hb := B.bytes
  have hr := B.returns
  have hts := atoms_spec (ws := v_X12_four) B.pre
  have hown : s.vm.findClass RX12 = some m.cls := findClass_of_methodNamed B.named
  have hlocks := B.notSynchronized
  subst hsz
  have hD := hD0.self (sz := s.heap.size)
  generalize hAe : va_A ([(b 0, .inr (12, [.int 0, .int 0, .ref (b 1), .ref (b 2), .ref (b 3), .ref (b 4), .int 0, .ref (b 5), .ref (b 6), .int 0, .int 0, .int 0, .int (-1), .int 0, .ref (b 7), .ref (b 20), .int 0, .ref (b 21), .ref (b 22), .int 0, .int 0, .ref (b 23), .int 0, .int 0, .int 0, .int 0, .ref (b 24), .ref (b 25), .ref (b 26), .int 0, .ref (b 27), .int 0, .ref (b 28), .ref (b 29), .ref (b 30), .ref (b 31), .ref (b 32), .ref (b 33), .ref (b 34), .int 0, .int 0, .int 0, .int 0, .int 0, .int 0, .ref (b 35), .ref (b 36), .ref (b 37), .int 0, .int 0, .int 0, .ref (b 38), .int 0, .int 0, .ref (b 39), .ref (b 40), .ref (b 41), .ref (b 42), .int 0])), (b 6, .inl (cy 0, 400, .inl f))]) s.heap.size = A at hD ⊢
  have hA : ∀ q : Nat, s.heap.size ≤ q → A q := fun q h => by rw [← hAe]; exact Or.inr h
  have hS : va_S A s.heap s.heap [] := va_S.rf
  have hl := lv_entry ([.ref (b 0), .int p0]) (n := 3) (Nat.le_of_ble_eq_true rfl)
  rw [lg_entry_eq]
  generalize (lg_sl ([.ref (b 0), .int p0]) ++ List.replicate (3 - (lg_sl ([.ref (b 0), .int p0])).length) Slot.unset).toArray = ls at hl ⊢
  have hl : lv_has ls 3 [(0, .ref (b 0)), (1, .int p0)] := hl
  refine lv_bipush (v := 24) hx hb dX12_four_0 (by decide) ?_
  refine lv_istore_n (lv' := [(2, .int 24), (0, .ref (b 0)), (1, .int p0)]) hx hb dX12_four_2 rfl hl (by decide) rfl (fun ls hl => ?_)
  refine lv_iload_n hx hb dX12_four_3 rfl (lv_at hl 0 rfl) ?_
  refine lv_if_lt (tgt := 39) hx hb dX12_four_4 (by decide) (fun c9_ => absurd c9_ (by decide)) (fun _ => ?_)
  refine lv_aload_n hx hb dX12_four_7 rfl (lv_at hl 1 rfl) ?_
  refine va_get (D := (dC, dI)) (ci := 12) (v := .ref (b 6)) (C := RX12) (T := TX12) (N := 59) hx hb hts i_X12_four_X12 hown hK hP 0 rfl rfl 8 (by decide) (hts _ m_X12_four_0) (fun _ h9 => h9) rfl dX12_four_8 ?_
  refine lv_aload_n hx hb dX12_four_11 rfl (lv_at hl 1 rfl) ?_
  refine va_get (D := (dC, dI)) (ci := 12) (v := .int 0) (C := RX12) (T := TX12) (N := 59) hx hb hts i_X12_four_X12 hown hK hP 0 rfl rfl 9 (by decide) (hts _ m_X12_four_1) (fun _ h9 => h9) rfl dX12_four_12 ?_
  refine lv_iload_n hx hb dX12_four_15 rfl (lv_at hl 2 rfl) ?_
  refine lv_iload_n hx hb dX12_four_16 rfl (lv_at hl 0 rfl) ?_
  refine lv_ishr hx hb dX12_four_17 ?_
  refine lv_sipush (v := 255) hx hb dX12_four_18 (by decide) ?_
  refine lv_iand hx hb dX12_four_21 ?_
  refine va_iast hx hb hK hP hD hS 1 0 rfl rfl (show ¬ ((0 : Int32) < 0 ∨ 400 ≤ Int32.toNatClampNeg 0) by decide) dX12_four_22 (fun H locs hP hD hS => ?_)
  refine lv_aload_n hx hb dX12_four_23 rfl (lv_at hl 1 rfl) ?_
  refine lv_dup hx hb dX12_four_24 rfl ?_
  refine va_get (D := (dC, dI)) (ci := 12) (v := .int 0) (C := RX12) (T := TX12) (N := 59) hx hb hts i_X12_four_X12 hown hK hP 0 rfl rfl 9 (by decide) (hts _ m_X12_four_1) (fun _ h9 => h9) rfl dX12_four_25 ?_
  refine lv_iconst (v := 1) hx hb dX12_four_28 (by decide) ?_
  refine lv_iadd hx hb dX12_four_29 ?_
  refine tk_i 1 (by decide) ?_
  refine va_put (D := (dC, dI)) (ci := 12) (v := .int 1) (ty := .int) (C := RX12) (T := TX12) (N := 59) hx hb hts i_X12_four_X12 tyX12 tyX12_ok nmX12 hown hK hP hD hS 0 rfl rfl 9 (by decide) (hts _ m_X12_four_1) (fun _ h9 => h9) rfl (by decide +kernel) rfl rfl (Nat.le_of_ble_eq_true rfl) dX12_four_30 (fun H locs hP hD hS => ?_)
  refine lv_iinc (v := 16) (lv' := [(2, .int 16), (0, .ref (b 0)), (1, .int p0)]) hx hb dX12_four_33 hl (k := 0) rfl (by decide) (by decide) rfl (fun ls hl => ?_)
  refine lv_goto (tgt := 3) hx hb dX12_four_36 (by decide) ?_
  refine lv_iload_n hx hb dX12_four_3 rfl (lv_at hl 0 rfl) ?_
  refine lv_if_lt (tgt := 39) hx hb dX12_four_4 (by decide) (fun c9_ => absurd c9_ (by decide)) (fun _ => ?_)
  refine lv_aload_n hx hb dX12_four_7 rfl (lv_at hl 1 rfl) ?_
  refine va_get (D := (dC, dI)) (ci := 12) (v := .ref (b 6)) (C := RX12) (T := TX12) (N := 59) hx hb hts i_X12_four_X12 hown hK hP 0 rfl rfl 8 (by decide) (hts _ m_X12_four_0) (fun _ h9 => h9) rfl dX12_four_8 ?_
  refine lv_aload_n hx hb dX12_four_11 rfl (lv_at hl 1 rfl) ?_
  refine va_get (D := (dC, dI)) (ci := 12) (v := .int 1) (C := RX12) (T := TX12) (N := 59) hx hb hts i_X12_four_X12 hown hK hP 0 rfl rfl 9 (by decide) (hts _ m_X12_four_1) (fun _ h9 => h9) rfl dX12_four_12 ?_
  refine lv_iload_n hx hb dX12_four_15 rfl (lv_at hl 2 rfl) ?_
  refine lv_iload_n hx hb dX12_four_16 rfl (lv_at hl 0 rfl) ?_
  refine lv_ishr hx hb dX12_four_17 ?_
  refine lv_sipush (v := 255) hx hb dX12_four_18 (by decide) ?_
  refine lv_iand hx hb dX12_four_21 ?_
  refine va_iast hx hb hK hP hD hS 1 0 rfl rfl (show ¬ ((1 : Int32) < 0 ∨ 400 ≤ Int32.toNatClampNeg 1) by decide) dX12_four_22 (fun H locs hP hD hS => ?_)
  refine lv_aload_n hx hb dX12_four_23 rfl (lv_at hl 1 rfl) ?_
  refine lv_dup hx hb dX12_four_24 rfl ?_
  refine va_get (D := (dC, dI)) (ci := 12) (v := .int 1) (C := RX12) (T := TX12) (N := 59) hx hb hts i_X12_four_X12 hown hK hP 0 rfl rfl 9 (by decide) (hts _ m_X12_four_1) (fun _ h9 => h9) rfl dX12_four_25 ?_
  refine lv_iconst (v := 1) hx hb dX12_four_28 (by decide) ?_
  refine lv_iadd hx hb dX12_four_29 ?_
  refine tk_i 2 (by decide) ?_
  refine va_put (D := (dC, dI)) (ci := 12) (v := .int 2) (ty := .int) (C := RX12) (T := TX12) (N := 59) hx hb hts i_X12_four_X12 tyX12 tyX12_ok nmX12 hown hK hP hD hS 0 rfl rfl 9 (by decide) (hts _ m_X12_four_1) (fun _ h9 => h9) rfl (by decide +kernel) rfl rfl (Nat.le_of_ble_eq_true rfl) dX12_four_30 (fun H locs hP hD hS => ?_)
  refine lv_iinc (v := 8) (lv' := [(2, .int 8), (0, .ref (b 0)), (1, .int p0)]) hx hb dX12_four_33 hl (k := 0) rfl (by decide) (by decide) rfl (fun ls hl => ?_)
  refine lv_goto (tgt := 3) hx hb dX12_four_36 (by decide) ?_
  refine lv_iload_n hx hb dX12_four_3 rfl (lv_at hl 0 rfl) ?_
  refine lv_if_lt (tgt := 39) hx hb dX12_four_4 (by decide) (fun c9_ => absurd c9_ (by decide)) (fun _ => ?_)
  refine lv_aload_n hx hb dX12_four_7 rfl (lv_at hl 1 rfl) ?_
  refine va_get (D := (dC, dI)) (ci := 12) (v := .ref (b 6)) (C := RX12) (T := TX12) (N := 59) hx hb hts i_X12_four_X12 hown hK hP 0 rfl rfl 8 (by decide) (hts _ m_X12_four_0) (fun _ h9 => h9) rfl dX12_four_8 ?_
  refine lv_aload_n hx hb dX12_four_11 rfl (lv_at hl 1 rfl) ?_
  refine va_get (D := (dC, dI)) (ci := 12) (v := .int 2) (C := RX12) (T := TX12) (N := 59) hx hb hts i_X12_four_X12 hown hK hP 0 rfl rfl 9 (by decide) (hts _ m_X12_four_1) (fun _ h9 => h9) rfl dX12_four_12 ?_
  refine lv_iload_n hx hb dX12_four_15 rfl (lv_at hl 2 rfl) ?_
  refine lv_iload_n hx hb dX12_four_16 rfl (lv_at hl 0 rfl) ?_
  refine lv_ishr hx hb dX12_four_17 ?_
  refine lv_sipush (v := 255) hx hb dX12_four_18 (by decide) ?_
  refine lv_iand hx hb dX12_four_21 ?_
  refine va_iast hx hb hK hP hD hS 1 0 rfl rfl (show ¬ ((2 : Int32) < 0 ∨ 400 ≤ Int32.toNatClampNeg 2) by decide) dX12_four_22 (fun H locs hP hD hS => ?_)
  refine lv_aload_n hx hb dX12_four_23 rfl (lv_at hl 1 rfl) ?_
  refine lv_dup hx hb dX12_four_24 rfl ?_
  refine va_get (D := (dC, dI)) (ci := 12) (v := .int 2) (C := RX12) (T := TX12) (N := 59) hx hb hts i_X12_four_X12 hown hK hP 0 rfl rfl 9 (by decide) (hts _ m_X12_four_1) (fun _ h9 => h9) rfl dX12_four_25 ?_
  refine lv_iconst (v := 1) hx hb dX12_four_28 (by decide) ?_
  refine lv_iadd hx hb dX12_four_29 ?_
  refine tk_i 3 (by decide) ?_
  refine va_put (D := (dC, dI)) (ci := 12) (v := .int 3) (ty := .int) (C := RX12) (T := TX12) (N := 59) hx hb hts i_X12_four_X12 tyX12 tyX12_ok nmX12 hown hK hP hD hS 0 rfl rfl 9 (by decide) (hts _ m_X12_four_1) (fun _ h9 => h9) rfl (by decide +kernel) rfl rfl (Nat.le_of_ble_eq_true rfl) dX12_four_30 (fun H locs hP hD hS => ?_)
  refine lv_iinc (v := 0) (lv' := [(2, .int 0), (0, .ref (b 0)), (1, .int p0)]) hx hb dX12_four_33 hl (k := 0) rfl (by decide) (by decide) rfl (fun ls hl => ?_)
  refine lv_goto (tgt := 3) hx hb dX12_four_36 (by decide) ?_
  refine lv_iload_n hx hb dX12_four_3 rfl (lv_at hl 0 rfl) ?_
  refine lv_if_lt (tgt := 39) hx hb dX12_four_4 (by decide) (fun c9_ => absurd c9_ (by decide)) (fun _ => ?_)
  refine lv_aload_n hx hb dX12_four_7 rfl (lv_at hl 1 rfl) ?_
  refine va_get (D := (dC, dI)) (ci := 12) (v := .ref (b 6)) (C := RX12) (T := TX12) (N := 59) hx hb hts i_X12_four_X12 hown hK hP 0 rfl rfl 8 (by decide) (hts _ m_X12_four_0) (fun _ h9 => h9) rfl dX12_four_8 ?_
  refine lv_aload_n hx hb dX12_four_11 rfl (lv_at hl 1 rfl) ?_
  refine va_get (D := (dC, dI)) (ci := 12) (v := .int 3) (C := RX12) (T := TX12) (N := 59) hx hb hts i_X12_four_X12 hown hK hP 0 rfl rfl 9 (by decide) (hts _ m_X12_four_1) (fun _ h9 => h9) rfl dX12_four_12 ?_
  refine lv_iload_n hx hb dX12_four_15 rfl (lv_at hl 2 rfl) ?_
  refine lv_iload_n hx hb dX12_four_16 rfl (lv_at hl 0 rfl) ?_
  refine lv_ishr hx hb dX12_four_17 ?_
  refine lv_sipush (v := 255) hx hb dX12_four_18 (by decide) ?_
  refine lv_iand hx hb dX12_four_21 ?_
  refine va_iast hx hb hK hP hD hS 1 0 rfl rfl (show ¬ ((3 : Int32) < 0 ∨ 400 ≤ Int32.toNatClampNeg 3) by decide) dX12_four_22 (fun H locs hP hD hS => ?_)
  refine lv_aload_n hx hb dX12_four_23 rfl (lv_at hl 1 rfl) ?_
  refine lv_dup hx hb dX12_four_24 rfl ?_
  refine va_get (D := (dC, dI)) (ci := 12) (v := .int 3) (C := RX12) (T := TX12) (N := 59) hx hb hts i_X12_four_X12 hown hK hP 0 rfl rfl 9 (by decide) (hts _ m_X12_four_1) (fun _ h9 => h9) rfl dX12_four_25 ?_
  refine lv_iconst (v := 1) hx hb dX12_four_28 (by decide) ?_
  refine lv_iadd hx hb dX12_four_29 ?_
  refine tk_i 4 (by decide) ?_
  refine va_put (D := (dC, dI)) (ci := 12) (v := .int 4) (ty := .int) (C := RX12) (T := TX12) (N := 59) hx hb hts i_X12_four_X12 tyX12 tyX12_ok nmX12 hown hK hP hD hS 0 rfl rfl 9 (by decide) (hts _ m_X12_four_1) (fun _ h9 => h9) rfl (by decide +kernel) rfl rfl (Nat.le_of_ble_eq_true rfl) dX12_four_30 (fun H locs hP hD hS => ?_)
  refine lv_iinc (v := (-8)) (lv' := [(2, .int (-8)), (0, .ref (b 0)), (1, .int p0)]) hx hb dX12_four_33 hl (k := 0) rfl (by decide) (by decide) rfl (fun ls hl => ?_)
  refine lv_goto (tgt := 3) hx hb dX12_four_36 (by decide) ?_
  refine lv_iload_n hx hb dX12_four_3 rfl (lv_at hl 0 rfl) ?_
  refine lv_if_lt (tgt := 39) hx hb dX12_four_4 (by decide) (fun _ => ?_) (fun c9_ => absurd (by decide) c9_)
  have hP9 := hP.sub (ws' := [(b 0, .inr (12, [.int 0, .int 0, .ref (b 1), .ref (b 2), .ref (b 3), .ref (b 4), .int 0, .ref (b 5), .ref (b 6), .int 4, .int 0, .int 0, .int (-1), .int 0, .ref (b 7), .ref (b 20), .int 0, .ref (b 21), .ref (b 22), .int 0, .int 0, .ref (b 23), .int 0, .int 0, .int 0, .int 0, .ref (b 24), .ref (b 25), .ref (b 26), .int 0, .ref (b 27), .int 0, .ref (b 28), .ref (b 29), .ref (b 30), .ref (b 31), .ref (b 32), .ref (b 33), .ref (b 34), .int 0, .int 0, .int 0, .int 0, .int 0, .int 0, .ref (b 35), .ref (b 36), .ref (b 37), .int 0, .int 0, .int 0, .ref (b 38), .int 0, .int 0, .ref (b 39), .ref (b 40), .ref (b 41), .ref (b 42), .int 0])), (b 6, .inl (cy 0, 400, .inl (upd (upd (upd (upd f 0 ((p0 >>> (24 &&& 31)) &&& 255)) 1 ((p0 >>> (16 &&& 31)) &&& 255)) 2 ((p0 >>> (8 &&& 31)) &&& 255)) 3 ((p0 >>> (0 &&& 31)) &&& 255))))]) [0, 1] rfl
  have hD9 := hD.sub (ws' := [(b 0, .inr (12, [.int 0, .int 0, .ref (b 1), .ref (b 2), .ref (b 3), .ref (b 4), .int 0, .ref (b 5), .ref (b 6), .int 4, .int 0, .int 0, .int (-1), .int 0, .ref (b 7), .ref (b 20), .int 0, .ref (b 21), .ref (b 22), .int 0, .int 0, .ref (b 23), .int 0, .int 0, .int 0, .int 0, .ref (b 24), .ref (b 25), .ref (b 26), .int 0, .ref (b 27), .int 0, .ref (b 28), .ref (b 29), .ref (b 30), .ref (b 31), .ref (b 32), .ref (b 33), .ref (b 34), .int 0, .int 0, .int 0, .int 0, .int 0, .int 0, .ref (b 35), .ref (b 36), .ref (b 37), .int 0, .int 0, .int 0, .ref (b 38), .int 0, .int 0, .ref (b 39), .ref (b 40), .ref (b 41), .ref (b 42), .int 0])), (b 6, .inl (cy 0, 400, .inl (upd (upd (upd (upd f 0 ((p0 >>> (24 &&& 31)) &&& 255)) 1 ((p0 >>> (16 &&& 31)) &&& 255)) 2 ((p0 >>> (8 &&& 31)) &&& 255)) 3 ((p0 >>> (0 &&& 31)) &&& 255))))]) [0, 1] (by decide) rfl
  exact W.vret hx hb hr (fun t ht hW => ⟨⟨((fun k => [].getD k 0, fun k => [(upd (upd (upd (upd f 0 ((p0 >>> (24 &&& 31)) &&& 255)) 1 ((p0 >>> (16 &&& 31)) &&& 255)) 2 ((p0 >>> (8 &&& 31)) &&& 255)) 3 ((p0 >>> (0 &&& 31)) &&& 255))].getD k (fun _ => 0), fun k => [].getD k (fun _ => none)) : uS), rfl, trivial, (by rw [ht]; exact hP9), hD9⟩, hS.F ht⟩) hS.2.2 dX12_four_39

set_option maxHeartbeats 4000000 in
set_option maxRecDepth 100000 in
theorem c_X12_four_4 (l : Launch) (dC : Nat → ClassId) (dI : Nat → Nat → Nat) (cy : Nat → ClassId) (b : Nat → Nat) (f : Nat → Int32) (sz : Nat) (p0 : Int32) : Met l yX12_four v_X12_four ({ frames := 0, cells := 0, slots := 0, locals := 0 }) (va_Pc [.ref (b 0), .int p0] (ps dC dI cy ([(b 0, .inr (12, [.int 0, .int 0, .ref (b 1), .ref (b 2), .ref (b 3), .ref (b 4), .int 0, .ref (b 5), .ref (b 6), .int 4, .int 0, .int 0, .int (-1), .int 0, .ref (b 7), .ref (b 20), .int 0, .ref (b 21), .ref (b 22), .int 0, .int 0, .ref (b 23), .int 0, .int 0, .int 0, .int 0, .ref (b 24), .ref (b 25), .ref (b 26), .int 0, .ref (b 27), .int 0, .ref (b 28), .ref (b 29), .ref (b 30), .ref (b 31), .ref (b 32), .ref (b 33), .ref (b 34), .int 0, .int 0, .int 0, .int 0, .int 0, .int 0, .ref (b 35), .ref (b 36), .ref (b 37), .int 0, .int 0, .int 0, .ref (b 38), .int 0, .int 0, .ref (b 39), .ref (b 40), .ref (b 41), .ref (b 42), .int 0])), (b 6, .inl (cy 0, 400, .inl f))]) sz)) (va_Qv (fun (_ : uS) => True) (fun (u : uS) (t : State) => va_P (dC, dI) vwCl ([(b 0, .inr (12, [.int 0, .int 0, .ref (b 1), .ref (b 2), .ref (b 3), .ref (b 4), .int 0, .ref (b 5), .ref (b 6), .int 8, .int 0, .int 0, .int (-1), .int 0, .ref (b 7), .ref (b 20), .int 0, .ref (b 21), .ref (b 22), .int 0, .int 0, .ref (b 23), .int 0, .int 0, .int 0, .int 0, .ref (b 24), .ref (b 25), .ref (b 26), .int 0, .ref (b 27), .int 0, .ref (b 28), .ref (b 29), .ref (b 30), .ref (b 31), .ref (b 32), .ref (b 33), .ref (b 34), .int 0, .int 0, .int 0, .int 0, .int 0, .int 0, .ref (b 35), .ref (b 36), .ref (b 37), .int 0, .int 0, .int 0, .ref (b 38), .int 0, .int 0, .ref (b 39), .ref (b 40), .ref (b 41), .ref (b 42), .int 0])), (b 6, .inl (cy 0, 400, .inl (u.2.1 0)))]) t.heap ∧ va_D (va_A ([(b 0, .inr (12, [.int 0, .int 0, .ref (b 1), .ref (b 2), .ref (b 3), .ref (b 4), .int 0, .ref (b 5), .ref (b 6), .int 4, .int 0, .int 0, .int (-1), .int 0, .ref (b 7), .ref (b 20), .int 0, .ref (b 21), .ref (b 22), .int 0, .int 0, .ref (b 23), .int 0, .int 0, .int 0, .int 0, .ref (b 24), .ref (b 25), .ref (b 26), .int 0, .ref (b 27), .int 0, .ref (b 28), .ref (b 29), .ref (b 30), .ref (b 31), .ref (b 32), .ref (b 33), .ref (b 34), .int 0, .int 0, .int 0, .int 0, .int 0, .int 0, .ref (b 35), .ref (b 36), .ref (b 37), .int 0, .int 0, .int 0, .ref (b 38), .int 0, .int 0, .ref (b 39), .ref (b 40), .ref (b 41), .ref (b 42), .int 0])), (b 6, .inl (cy 0, 400, .inl f))]) sz) ([(b 0, .inr (12, [.int 0, .int 0, .ref (b 1), .ref (b 2), .ref (b 3), .ref (b 4), .int 0, .ref (b 5), .ref (b 6), .int 8, .int 0, .int 0, .int (-1), .int 0, .ref (b 7), .ref (b 20), .int 0, .ref (b 21), .ref (b 22), .int 0, .int 0, .ref (b 23), .int 0, .int 0, .int 0, .int 0, .ref (b 24), .ref (b 25), .ref (b 26), .int 0, .ref (b 27), .int 0, .ref (b 28), .ref (b 29), .ref (b 30), .ref (b 31), .ref (b 32), .ref (b 33), .ref (b 34), .int 0, .int 0, .int 0, .int 0, .int 0, .int 0, .ref (b 35), .ref (b 36), .ref (b 37), .int 0, .int 0, .int 0, .ref (b 38), .int 0, .int 0, .ref (b 39), .ref (b 40), .ref (b 41), .ref (b 42), .int 0])), (b 6, .inl (cy 0, 400, .inl (u.2.1 0)))])) (va_A ([(b 0, .inr (12, [.int 0, .int 0, .ref (b 1), .ref (b 2), .ref (b 3), .ref (b 4), .int 0, .ref (b 5), .ref (b 6), .int 4, .int 0, .int 0, .int (-1), .int 0, .ref (b 7), .ref (b 20), .int 0, .ref (b 21), .ref (b 22), .int 0, .int 0, .ref (b 23), .int 0, .int 0, .int 0, .int 0, .ref (b 24), .ref (b 25), .ref (b 26), .int 0, .ref (b 27), .int 0, .ref (b 28), .ref (b 29), .ref (b 30), .ref (b 31), .ref (b 32), .ref (b 33), .ref (b 34), .int 0, .int 0, .int 0, .int 0, .int 0, .int 0, .ref (b 35), .ref (b 36), .ref (b 37), .int 0, .int 0, .int 0, .ref (b 38), .int 0, .int 0, .ref (b 39), .ref (b 40), .ref (b 41), .ref (b 42), .int 0])), (b 6, .inl (cy 0, 400, .inl f))]) sz)) 0 0 (va_A ([(b 0, .inr (12, [.int 0, .int 0, .ref (b 1), .ref (b 2), .ref (b 3), .ref (b 4), .int 0, .ref (b 5), .ref (b 6), .int 4, .int 0, .int 0, .int (-1), .int 0, .ref (b 7), .ref (b 20), .int 0, .ref (b 21), .ref (b 22), .int 0, .int 0, .ref (b 23), .int 0, .int 0, .int 0, .int 0, .ref (b 24), .ref (b 25), .ref (b 26), .int 0, .ref (b 27), .int 0, .ref (b 28), .ref (b 29), .ref (b 30), .ref (b 31), .ref (b 32), .ref (b 33), .ref (b 34), .int 0, .int 0, .int 0, .int 0, .int 0, .int 0, .ref (b 35), .ref (b 36), .ref (b 37), .int 0, .int 0, .int 0, .ref (b 38), .int 0, .int 0, .ref (b 39), .ref (b 40), .ref (b 41), .ref (b 42), .int 0])), (b 6, .inl (cy 0, 400, .inl f))]) sz) := by
  refine Met.ofW (cc := cX12_four) (maxL := 3) (ret := none) (by decide) rfl ?_
  intro p e s m args below meth c s₁ B hml hv
  obtain ⟨rfl, hsz, hP, hC, hD0⟩ := hv
  have hK := hC.1
  have hx := B.exec
  have hb := B.bytes
  have hr := B.returns
  have hts := atoms_spec (ws := v_X12_four) B.pre
  have hown : s.vm.findClass RX12 = some m.cls := findClass_of_methodNamed B.named
  have hlocks := B.notSynchronized
  subst hsz
  have hD := hD0.self (sz := s.heap.size)
  generalize hAe : va_A ([(b 0, .inr (12, [.int 0, .int 0, .ref (b 1), .ref (b 2), .ref (b 3), .ref (b 4), .int 0, .ref (b 5), .ref (b 6), .int 4, .int 0, .int 0, .int (-1), .int 0, .ref (b 7), .ref (b 20), .int 0, .ref (b 21), .ref (b 22), .int 0, .int 0, .ref (b 23), .int 0, .int 0, .int 0, .int 0, .ref (b 24), .ref (b 25), .ref (b 26), .int 0, .ref (b 27), .int 0, .ref (b 28), .ref (b 29), .ref (b 30), .ref (b 31), .ref (b 32), .ref (b 33), .ref (b 34), .int 0, .int 0, .int 0, .int 0, .int 0, .int 0, .ref (b 35), .ref (b 36), .ref (b 37), .int 0, .int 0, .int 0, .ref (b 38), .int 0, .int 0, .ref (b 39), .ref (b 40), .ref (b 41), .ref (b 42), .int 0])), (b 6, .inl (cy 0, 400, .inl f))]) s.heap.size = A at hD ⊢
  have hA : ∀ q : Nat, s.heap.size ≤ q → A q := fun q h => by rw [← hAe]; exact Or.inr h
  have hS : va_S A s.heap s.heap [] := va_S.rf
  have hl := lv_entry ([.ref (b 0), .int p0]) (n := 3) (Nat.le_of_ble_eq_true rfl)
  rw [lg_entry_eq]
  generalize (lg_sl ([.ref (b 0), .int p0]) ++ List.replicate (3 - (lg_sl ([.ref (b 0), .int p0])).length) Slot.unset).toArray = ls at hl ⊢
  have hl : lv_has ls 3 [(0, .ref (b 0)), (1, .int p0)] := hl
  refine lv_bipush (v := 24) hx hb dX12_four_0 (by decide) ?_
  refine lv_istore_n (lv' := [(2, .int 24), (0, .ref (b 0)), (1, .int p0)]) hx hb dX12_four_2 rfl hl (by decide) rfl (fun ls hl => ?_)
  refine lv_iload_n hx hb dX12_four_3 rfl (lv_at hl 0 rfl) ?_
  refine lv_if_lt (tgt := 39) hx hb dX12_four_4 (by decide) (fun c9_ => absurd c9_ (by decide)) (fun _ => ?_)
  refine lv_aload_n hx hb dX12_four_7 rfl (lv_at hl 1 rfl) ?_
  refine va_get (D := (dC, dI)) (ci := 12) (v := .ref (b 6)) (C := RX12) (T := TX12) (N := 59) hx hb hts i_X12_four_X12 hown hK hP 0 rfl rfl 8 (by decide) (hts _ m_X12_four_0) (fun _ h9 => h9) rfl dX12_four_8 ?_
  refine lv_aload_n hx hb dX12_four_11 rfl (lv_at hl 1 rfl) ?_
  refine va_get (D := (dC, dI)) (ci := 12) (v := .int 4) (C := RX12) (T := TX12) (N := 59) hx hb hts i_X12_four_X12 hown hK hP 0 rfl rfl 9 (by decide) (hts _ m_X12_four_1) (fun _ h9 => h9) rfl dX12_four_12 ?_
  refine lv_iload_n hx hb dX12_four_15 rfl (lv_at hl 2 rfl) ?_
  refine lv_iload_n hx hb dX12_four_16 rfl (lv_at hl 0 rfl) ?_
  refine lv_ishr hx hb dX12_four_17 ?_
  refine lv_sipush (v := 255) hx hb dX12_four_18 (by decide) ?_
  refine lv_iand hx hb dX12_four_21 ?_
  refine va_iast hx hb hK hP hD hS 1 0 rfl rfl (show ¬ ((4 : Int32) < 0 ∨ 400 ≤ Int32.toNatClampNeg 4) by decide) dX12_four_22 (fun H locs hP hD hS => ?_)
  refine lv_aload_n hx hb dX12_four_23 rfl (lv_at hl 1 rfl) ?_
  refine lv_dup hx hb dX12_four_24 rfl ?_
  refine va_get (D := (dC, dI)) (ci := 12) (v := .int 4) (C := RX12) (T := TX12) (N := 59) hx hb hts i_X12_four_X12 hown hK hP 0 rfl rfl 9 (by decide) (hts _ m_X12_four_1) (fun _ h9 => h9) rfl dX12_four_25 ?_
  refine lv_iconst (v := 1) hx hb dX12_four_28 (by decide) ?_
  refine lv_iadd hx hb dX12_four_29 ?_
  refine tk_i 5 (by decide) ?_
  refine va_put (D := (dC, dI)) (ci := 12) (v := .int 5) (ty := .int) (C := RX12) (T := TX12) (N := 59) hx hb hts i_X12_four_X12 tyX12 tyX12_ok nmX12 hown hK hP hD hS 0 rfl rfl 9 (by decide) (hts _ m_X12_four_1) (fun _ h9 => h9) rfl (by decide +kernel) rfl rfl (Nat.le_of_ble_eq_true rfl) dX12_four_30 (fun H locs hP hD hS => ?_)
  refine lv_iinc (v := 16) (lv' := [(2, .int 16), (0, .ref (b 0)), (1, .int p0)]) hx hb dX12_four_33 hl (k := 0) rfl (by decide) (by decide) rfl (fun ls hl => ?_)
  refine lv_goto (tgt := 3) hx hb dX12_four_36 (by decide) ?_
  refine lv_iload_n hx hb dX12_four_3 rfl (lv_at hl 0 rfl) ?_
  refine lv_if_lt (tgt := 39) hx hb dX12_four_4 (by decide) (fun c9_ => absurd c9_ (by decide)) (fun _ => ?_)
  refine lv_aload_n hx hb dX12_four_7 rfl (lv_at hl 1 rfl) ?_
  refine va_get (D := (dC, dI)) (ci := 12) (v := .ref (b 6)) (C := RX12) (T := TX12) (N := 59) hx hb hts i_X12_four_X12 hown hK hP 0 rfl rfl 8 (by decide) (hts _ m_X12_four_0) (fun _ h9 => h9) rfl dX12_four_8 ?_
  refine lv_aload_n hx hb dX12_four_11 rfl (lv_at hl 1 rfl) ?_
  refine va_get (D := (dC, dI)) (ci := 12) (v := .int 5) (C := RX12) (T := TX12) (N := 59) hx hb hts i_X12_four_X12 hown hK hP 0 rfl rfl 9 (by decide) (hts _ m_X12_four_1) (fun _ h9 => h9) rfl dX12_four_12 ?_
  refine lv_iload_n hx hb dX12_four_15 rfl (lv_at hl 2 rfl) ?_
  refine lv_iload_n hx hb dX12_four_16 rfl (lv_at hl 0 rfl) ?_
  refine lv_ishr hx hb dX12_four_17 ?_
  refine lv_sipush (v := 255) hx hb dX12_four_18 (by decide) ?_
  refine lv_iand hx hb dX12_four_21 ?_
  refine va_iast hx hb hK hP hD hS 1 0 rfl rfl (show ¬ ((5 : Int32) < 0 ∨ 400 ≤ Int32.toNatClampNeg 5) by decide) dX12_four_22 (fun H locs hP hD hS => ?_)
  refine lv_aload_n hx hb dX12_four_23 rfl (lv_at hl 1 rfl) ?_
  refine lv_dup hx hb dX12_four_24 rfl ?_
  refine va_get (D := (dC, dI)) (ci := 12) (v := .int 5) (C := RX12) (T := TX12) (N := 59) hx hb hts i_X12_four_X12 hown hK hP 0 rfl rfl 9 (by decide) (hts _ m_X12_four_1) (fun _ h9 => h9) rfl dX12_four_25 ?_
  refine lv_iconst (v := 1) hx hb dX12_four_28 (by decide) ?_
  refine lv_iadd hx hb dX12_four_29 ?_
  refine tk_i 6 (by decide) ?_
  refine va_put (D := (dC, dI)) (ci := 12) (v := .int 6) (ty := .int) (C := RX12) (T := TX12) (N := 59) hx hb hts i_X12_four_X12 tyX12 tyX12_ok nmX12 hown hK hP hD hS 0 rfl rfl 9 (by decide) (hts _ m_X12_four_1) (fun _ h9 => h9) rfl (by decide +kernel) rfl rfl (Nat.le_of_ble_eq_true rfl) dX12_four_30 (fun H locs hP hD hS => ?_)
  refine lv_iinc (v := 8) (lv' := [(2, .int 8), (0, .ref (b 0)), (1, .int p0)]) hx hb dX12_four_33 hl (k := 0) rfl (by decide) (by decide) rfl (fun ls hl => ?_)
  refine lv_goto (tgt := 3) hx hb dX12_four_36 (by decide) ?_
  refine lv_iload_n hx hb dX12_four_3 rfl (lv_at hl 0 rfl) ?_
  refine lv_if_lt (tgt := 39) hx hb dX12_four_4 (by decide) (fun c9_ => absurd c9_ (by decide)) (fun _ => ?_)
  refine lv_aload_n hx hb dX12_four_7 rfl (lv_at hl 1 rfl) ?_
  refine va_get (D := (dC, dI)) (ci := 12) (v := .ref (b 6)) (C := RX12) (T := TX12) (N := 59) hx hb hts i_X12_four_X12 hown hK hP 0 rfl rfl 8 (by decide) (hts _ m_X12_four_0) (fun _ h9 => h9) rfl dX12_four_8 ?_
  refine lv_aload_n hx hb dX12_four_11 rfl (lv_at hl 1 rfl) ?_
  refine va_get (D := (dC, dI)) (ci := 12) (v := .int 6) (C := RX12) (T := TX12) (N := 59) hx hb hts i_X12_four_X12 hown hK hP 0 rfl rfl 9 (by decide) (hts _ m_X12_four_1) (fun _ h9 => h9) rfl dX12_four_12 ?_
  refine lv_iload_n hx hb dX12_four_15 rfl (lv_at hl 2 rfl) ?_
  refine lv_iload_n hx hb dX12_four_16 rfl (lv_at hl 0 rfl) ?_
  refine lv_ishr hx hb dX12_four_17 ?_
  refine lv_sipush (v := 255) hx hb dX12_four_18 (by decide) ?_
  refine lv_iand hx hb dX12_four_21 ?_
  refine va_iast hx hb hK hP hD hS 1 0 rfl rfl (show ¬ ((6 : Int32) < 0 ∨ 400 ≤ Int32.toNatClampNeg 6) by decide) dX12_four_22 (fun H locs hP hD hS => ?_)
  refine lv_aload_n hx hb dX12_four_23 rfl (lv_at hl 1 rfl) ?_
  refine lv_dup hx hb dX12_four_24 rfl ?_
  refine va_get (D := (dC, dI)) (ci := 12) (v := .int 6) (C := RX12) (T := TX12) (N := 59) hx hb hts i_X12_four_X12 hown hK hP 0 rfl rfl 9 (by decide) (hts _ m_X12_four_1) (fun _ h9 => h9) rfl dX12_four_25 ?_
  refine lv_iconst (v := 1) hx hb dX12_four_28 (by decide) ?_
  refine lv_iadd hx hb dX12_four_29 ?_
  refine tk_i 7 (by decide) ?_
  refine va_put (D := (dC, dI)) (ci := 12) (v := .int 7) (ty := .int) (C := RX12) (T := TX12) (N := 59) hx hb hts i_X12_four_X12 tyX12 tyX12_ok nmX12 hown hK hP hD hS 0 rfl rfl 9 (by decide) (hts _ m_X12_four_1) (fun _ h9 => h9) rfl (by decide +kernel) rfl rfl (Nat.le_of_ble_eq_true rfl) dX12_four_30 (fun H locs hP hD hS => ?_)
  refine lv_iinc (v := 0) (lv' := [(2, .int 0), (0, .ref (b 0)), (1, .int p0)]) hx hb dX12_four_33 hl (k := 0) rfl (by decide) (by decide) rfl (fun ls hl => ?_)
  refine lv_goto (tgt := 3) hx hb dX12_four_36 (by decide) ?_
  refine lv_iload_n hx hb dX12_four_3 rfl (lv_at hl 0 rfl) ?_
  refine lv_if_lt (tgt := 39) hx hb dX12_four_4 (by decide) (fun c9_ => absurd c9_ (by decide)) (fun _ => ?_)
  refine lv_aload_n hx hb dX12_four_7 rfl (lv_at hl 1 rfl) ?_
  refine va_get (D := (dC, dI)) (ci := 12) (v := .ref (b 6)) (C := RX12) (T := TX12) (N := 59) hx hb hts i_X12_four_X12 hown hK hP 0 rfl rfl 8 (by decide) (hts _ m_X12_four_0) (fun _ h9 => h9) rfl dX12_four_8 ?_
  refine lv_aload_n hx hb dX12_four_11 rfl (lv_at hl 1 rfl) ?_
  refine va_get (D := (dC, dI)) (ci := 12) (v := .int 7) (C := RX12) (T := TX12) (N := 59) hx hb hts i_X12_four_X12 hown hK hP 0 rfl rfl 9 (by decide) (hts _ m_X12_four_1) (fun _ h9 => h9) rfl dX12_four_12 ?_
  refine lv_iload_n hx hb dX12_four_15 rfl (lv_at hl 2 rfl) ?_
  refine lv_iload_n hx hb dX12_four_16 rfl (lv_at hl 0 rfl) ?_
  refine lv_ishr hx hb dX12_four_17 ?_
  refine lv_sipush (v := 255) hx hb dX12_four_18 (by decide) ?_
  refine lv_iand hx hb dX12_four_21 ?_
  refine va_iast hx hb hK hP hD hS 1 0 rfl rfl (show ¬ ((7 : Int32) < 0 ∨ 400 ≤ Int32.toNatClampNeg 7) by decide) dX12_four_22 (fun H locs hP hD hS => ?_)
  refine lv_aload_n hx hb dX12_four_23 rfl (lv_at hl 1 rfl) ?_
  refine lv_dup hx hb dX12_four_24 rfl ?_
  refine va_get (D := (dC, dI)) (ci := 12) (v := .int 7) (C := RX12) (T := TX12) (N := 59) hx hb hts i_X12_four_X12 hown hK hP 0 rfl rfl 9 (by decide) (hts _ m_X12_four_1) (fun _ h9 => h9) rfl dX12_four_25 ?_
  refine lv_iconst (v := 1) hx hb dX12_four_28 (by decide) ?_
  refine lv_iadd hx hb dX12_four_29 ?_
  refine tk_i 8 (by decide) ?_
  refine va_put (D := (dC, dI)) (ci := 12) (v := .int 8) (ty := .int) (C := RX12) (T := TX12) (N := 59) hx hb hts i_X12_four_X12 tyX12 tyX12_ok nmX12 hown hK hP hD hS 0 rfl rfl 9 (by decide) (hts _ m_X12_four_1) (fun _ h9 => h9) rfl (by decide +kernel) rfl rfl (Nat.le_of_ble_eq_true rfl) dX12_four_30 (fun H locs hP hD hS => ?_)
  refine lv_iinc (v := (-8)) (lv' := [(2, .int (-8)), (0, .ref (b 0)), (1, .int p0)]) hx hb dX12_four_33 hl (k := 0) rfl (by decide) (by decide) rfl (fun ls hl => ?_)
  refine lv_goto (tgt := 3) hx hb dX12_four_36 (by decide) ?_
  refine lv_iload_n hx hb dX12_four_3 rfl (lv_at hl 0 rfl) ?_
  refine lv_if_lt (tgt := 39) hx hb dX12_four_4 (by decide) (fun _ => ?_) (fun c9_ => absurd (by decide) c9_)
  have hP9 := hP.sub (ws' := [(b 0, .inr (12, [.int 0, .int 0, .ref (b 1), .ref (b 2), .ref (b 3), .ref (b 4), .int 0, .ref (b 5), .ref (b 6), .int 8, .int 0, .int 0, .int (-1), .int 0, .ref (b 7), .ref (b 20), .int 0, .ref (b 21), .ref (b 22), .int 0, .int 0, .ref (b 23), .int 0, .int 0, .int 0, .int 0, .ref (b 24), .ref (b 25), .ref (b 26), .int 0, .ref (b 27), .int 0, .ref (b 28), .ref (b 29), .ref (b 30), .ref (b 31), .ref (b 32), .ref (b 33), .ref (b 34), .int 0, .int 0, .int 0, .int 0, .int 0, .int 0, .ref (b 35), .ref (b 36), .ref (b 37), .int 0, .int 0, .int 0, .ref (b 38), .int 0, .int 0, .ref (b 39), .ref (b 40), .ref (b 41), .ref (b 42), .int 0])), (b 6, .inl (cy 0, 400, .inl (upd (upd (upd (upd f 4 ((p0 >>> (24 &&& 31)) &&& 255)) 5 ((p0 >>> (16 &&& 31)) &&& 255)) 6 ((p0 >>> (8 &&& 31)) &&& 255)) 7 ((p0 >>> (0 &&& 31)) &&& 255))))]) [0, 1] rfl
  have hD9 := hD.sub (ws' := [(b 0, .inr (12, [.int 0, .int 0, .ref (b 1), .ref (b 2), .ref (b 3), .ref (b 4), .int 0, .ref (b 5), .ref (b 6), .int 8, .int 0, .int 0, .int (-1), .int 0, .ref (b 7), .ref (b 20), .int 0, .ref (b 21), .ref (b 22), .int 0, .int 0, .ref (b 23), .int 0, .int 0, .int 0, .int 0, .ref (b 24), .ref (b 25), .ref (b 26), .int 0, .ref (b 27), .int 0, .ref (b 28), .ref (b 29), .ref (b 30), .ref (b 31), .ref (b 32), .ref (b 33), .ref (b 34), .int 0, .int 0, .int 0, .int 0, .int 0, .int 0, .ref (b 35), .ref (b 36), .ref (b 37), .int 0, .int 0, .int 0, .ref (b 38), .int 0, .int 0, .ref (b 39), .ref (b 40), .ref (b 41), .ref (b 42), .int 0])), (b 6, .inl (cy 0, 400, .inl (upd (upd (upd (upd f 4 ((p0 >>> (24 &&& 31)) &&& 255)) 5 ((p0 >>> (16 &&& 31)) &&& 255)) 6 ((p0 >>> (8 &&& 31)) &&& 255)) 7 ((p0 >>> (0 &&& 31)) &&& 255))))]) [0, 1] (by decide) rfl
  exact W.vret hx hb hr (fun t ht hW => ⟨⟨((fun k => [].getD k 0, fun k => [(upd (upd (upd (upd f 4 ((p0 >>> (24 &&& 31)) &&& 255)) 5 ((p0 >>> (16 &&& 31)) &&& 255)) 6 ((p0 >>> (8 &&& 31)) &&& 255)) 7 ((p0 >>> (0 &&& 31)) &&& 255))].getD k (fun _ => 0), fun k => [].getD k (fun _ => none)) : uS), rfl, trivial, (by rw [ht]; exact hP9), hD9⟩, hS.F ht⟩) hS.2.2 dX12_four_39

set_option maxHeartbeats 4000000 in
set_option maxRecDepth 100000 in
theorem c_X12_four_8 (l : Launch) (dC : Nat → ClassId) (dI : Nat → Nat → Nat) (cy : Nat → ClassId) (b : Nat → Nat) (f : Nat → Int32) (sz : Nat) (p0 : Int32) : Met l yX12_four v_X12_four ({ frames := 0, cells := 0, slots := 0, locals := 0 }) (va_Pc [.ref (b 0), .int p0] (ps dC dI cy ([(b 0, .inr (12, [.int 0, .int 0, .ref (b 1), .ref (b 2), .ref (b 3), .ref (b 4), .int 0, .ref (b 5), .ref (b 6), .int 8, .int 0, .int 0, .int (-1), .int 0, .ref (b 7), .ref (b 20), .int 0, .ref (b 21), .ref (b 22), .int 0, .int 0, .ref (b 23), .int 0, .int 0, .int 0, .int 0, .ref (b 24), .ref (b 25), .ref (b 26), .int 0, .ref (b 27), .int 0, .ref (b 28), .ref (b 29), .ref (b 30), .ref (b 31), .ref (b 32), .ref (b 33), .ref (b 34), .int 0, .int 0, .int 0, .int 0, .int 0, .int 0, .ref (b 35), .ref (b 36), .ref (b 37), .int 0, .int 0, .int 0, .ref (b 38), .int 0, .int 0, .ref (b 39), .ref (b 40), .ref (b 41), .ref (b 42), .int 0])), (b 6, .inl (cy 0, 400, .inl f))]) sz)) (va_Qv (fun (_ : uS) => True) (fun (u : uS) (t : State) => va_P (dC, dI) vwCl ([(b 0, .inr (12, [.int 0, .int 0, .ref (b 1), .ref (b 2), .ref (b 3), .ref (b 4), .int 0, .ref (b 5), .ref (b 6), .int 12, .int 0, .int 0, .int (-1), .int 0, .ref (b 7), .ref (b 20), .int 0, .ref (b 21), .ref (b 22), .int 0, .int 0, .ref (b 23), .int 0, .int 0, .int 0, .int 0, .ref (b 24), .ref (b 25), .ref (b 26), .int 0, .ref (b 27), .int 0, .ref (b 28), .ref (b 29), .ref (b 30), .ref (b 31), .ref (b 32), .ref (b 33), .ref (b 34), .int 0, .int 0, .int 0, .int 0, .int 0, .int 0, .ref (b 35), .ref (b 36), .ref (b 37), .int 0, .int 0, .int 0, .ref (b 38), .int 0, .int 0, .ref (b 39), .ref (b 40), .ref (b 41), .ref (b 42), .int 0])), (b 6, .inl (cy 0, 400, .inl (u.2.1 0)))]) t.heap ∧ va_D (va_A ([(b 0, .inr (12, [.int 0, .int 0, .ref (b 1), .ref (b 2), .ref (b 3), .ref (b 4), .int 0, .ref (b 5), .ref (b 6), .int 8, .int 0, .int 0, .int (-1), .int 0, .ref (b 7), .ref (b 20), .int 0, .ref (b 21), .ref (b 22), .int 0, .int 0, .ref (b 23), .int 0, .int 0, .int 0, .int 0, .ref (b 24), .ref (b 25), .ref (b 26), .int 0, .ref (b 27), .int 0, .ref (b 28), .ref (b 29), .ref (b 30), .ref (b 31), .ref (b 32), .ref (b 33), .ref (b 34), .int 0, .int 0, .int 0, .int 0, .int 0, .int 0, .ref (b 35), .ref (b 36), .ref (b 37), .int 0, .int 0, .int 0, .ref (b 38), .int 0, .int 0, .ref (b 39), .ref (b 40), .ref (b 41), .ref (b 42), .int 0])), (b 6, .inl (cy 0, 400, .inl f))]) sz) ([(b 0, .inr (12, [.int 0, .int 0, .ref (b 1), .ref (b 2), .ref (b 3), .ref (b 4), .int 0, .ref (b 5), .ref (b 6), .int 12, .int 0, .int 0, .int (-1), .int 0, .ref (b 7), .ref (b 20), .int 0, .ref (b 21), .ref (b 22), .int 0, .int 0, .ref (b 23), .int 0, .int 0, .int 0, .int 0, .ref (b 24), .ref (b 25), .ref (b 26), .int 0, .ref (b 27), .int 0, .ref (b 28), .ref (b 29), .ref (b 30), .ref (b 31), .ref (b 32), .ref (b 33), .ref (b 34), .int 0, .int 0, .int 0, .int 0, .int 0, .int 0, .ref (b 35), .ref (b 36), .ref (b 37), .int 0, .int 0, .int 0, .ref (b 38), .int 0, .int 0, .ref (b 39), .ref (b 40), .ref (b 41), .ref (b 42), .int 0])), (b 6, .inl (cy 0, 400, .inl (u.2.1 0)))])) (va_A ([(b 0, .inr (12, [.int 0, .int 0, .ref (b 1), .ref (b 2), .ref (b 3), .ref (b 4), .int 0, .ref (b 5), .ref (b 6), .int 8, .int 0, .int 0, .int (-1), .int 0, .ref (b 7), .ref (b 20), .int 0, .ref (b 21), .ref (b 22), .int 0, .int 0, .ref (b 23), .int 0, .int 0, .int 0, .int 0, .ref (b 24), .ref (b 25), .ref (b 26), .int 0, .ref (b 27), .int 0, .ref (b 28), .ref (b 29), .ref (b 30), .ref (b 31), .ref (b 32), .ref (b 33), .ref (b 34), .int 0, .int 0, .int 0, .int 0, .int 0, .int 0, .ref (b 35), .ref (b 36), .ref (b 37), .int 0, .int 0, .int 0, .ref (b 38), .int 0, .int 0, .ref (b 39), .ref (b 40), .ref (b 41), .ref (b 42), .int 0])), (b 6, .inl (cy 0, 400, .inl f))]) sz)) 0 0 (va_A ([(b 0, .inr (12, [.int 0, .int 0, .ref (b 1), .ref (b 2), .ref (b 3), .ref (b 4), .int 0, .ref (b 5), .ref (b 6), .int 8, .int 0, .int 0, .int (-1), .int 0, .ref (b 7), .ref (b 20), .int 0, .ref (b 21), .ref (b 22), .int 0, .int 0, .ref (b 23), .int 0, .int 0, .int 0, .int 0, .ref (b 24), .ref (b 25), .ref (b 26), .int 0, .ref (b 27), .int 0, .ref (b 28), .ref (b 29), .ref (b 30), .ref (b 31), .ref (b 32), .ref (b 33), .ref (b 34), .int 0, .int 0, .int 0, .int 0, .int 0, .int 0, .ref (b 35), .ref (b 36), .ref (b 37), .int 0, .int 0, .int 0, .ref (b 38), .int 0, .int 0, .ref (b 39), .ref (b 40), .ref (b 41), .ref (b 42), .int 0])), (b 6, .inl (cy 0, 400, .inl f))]) sz) := by
  refine Met.ofW (cc := cX12_four) (maxL := 3) (ret := none) (by decide) rfl ?_
  intro p e s m args below meth c s₁ B hml hv
  obtain ⟨rfl, hsz, hP, hC, hD0⟩ := hv
  have hK := hC.1
  have hx := B.exec
  have hb := B.bytes
  have hr := B.returns
  have hts := atoms_spec (ws := v_X12_four) B.pre
  have hown : s.vm.findClass RX12 = some m.cls := findClass_of_methodNamed B.named
  have hlocks := B.notSynchronized
  subst hsz
  have hD := hD0.self (sz := s.heap.size)
  generalize hAe : va_A ([(b 0, .inr (12, [.int 0, .int 0, .ref (b 1), .ref (b 2), .ref (b 3), .ref (b 4), .int 0, .ref (b 5), .ref (b 6), .int 8, .int 0, .int 0, .int (-1), .int 0, .ref (b 7), .ref (b 20), .int 0, .ref (b 21), .ref (b 22), .int 0, .int 0, .ref (b 23), .int 0, .int 0, .int 0, .int 0, .ref (b 24), .ref (b 25), .ref (b 26), .int 0, .ref (b 27), .int 0, .ref (b 28), .ref (b 29), .ref (b 30), .ref (b 31), .ref (b 32), .ref (b 33), .ref (b 34), .int 0, .int 0, .int 0, .int 0, .int 0, .int 0, .ref (b 35), .ref (b 36), .ref (b 37), .int 0, .int 0, .int 0, .ref (b 38), .int 0, .int 0, .ref (b 39), .ref (b 40), .ref (b 41), .ref (b 42), .int 0])), (b 6, .inl (cy 0, 400, .inl f))]) s.heap.size = A at hD ⊢
  have hA : ∀ q : Nat, s.heap.size ≤ q → A q := fun q h => by rw [← hAe]; exact Or.inr h
  have hS : va_S A s.heap s.heap [] := va_S.rf
  have hl := lv_entry ([.ref (b 0), .int p0]) (n := 3) (Nat.le_of_ble_eq_true rfl)
  rw [lg_entry_eq]
  generalize (lg_sl ([.ref (b 0), .int p0]) ++ List.replicate (3 - (lg_sl ([.ref (b 0), .int p0])).length) Slot.unset).toArray = ls at hl ⊢
  have hl : lv_has ls 3 [(0, .ref (b 0)), (1, .int p0)] := hl
  refine lv_bipush (v := 24) hx hb dX12_four_0 (by decide) ?_
  refine lv_istore_n (lv' := [(2, .int 24), (0, .ref (b 0)), (1, .int p0)]) hx hb dX12_four_2 rfl hl (by decide) rfl (fun ls hl => ?_)
  refine lv_iload_n hx hb dX12_four_3 rfl (lv_at hl 0 rfl) ?_
  refine lv_if_lt (tgt := 39) hx hb dX12_four_4 (by decide) (fun c9_ => absurd c9_ (by decide)) (fun _ => ?_)
  refine lv_aload_n hx hb dX12_four_7 rfl (lv_at hl 1 rfl) ?_
  refine va_get (D := (dC, dI)) (ci := 12) (v := .ref (b 6)) (C := RX12) (T := TX12) (N := 59) hx hb hts i_X12_four_X12 hown hK hP 0 rfl rfl 8 (by decide) (hts _ m_X12_four_0) (fun _ h9 => h9) rfl dX12_four_8 ?_
  refine lv_aload_n hx hb dX12_four_11 rfl (lv_at hl 1 rfl) ?_
  refine va_get (D := (dC, dI)) (ci := 12) (v := .int 8) (C := RX12) (T := TX12) (N := 59) hx hb hts i_X12_four_X12 hown hK hP 0 rfl rfl 9 (by decide) (hts _ m_X12_four_1) (fun _ h9 => h9) rfl dX12_four_12 ?_
  refine lv_iload_n hx hb dX12_four_15 rfl (lv_at hl 2 rfl) ?_
  refine lv_iload_n hx hb dX12_four_16 rfl (lv_at hl 0 rfl) ?_
  refine lv_ishr hx hb dX12_four_17 ?_
  refine lv_sipush (v := 255) hx hb dX12_four_18 (by decide) ?_
  refine lv_iand hx hb dX12_four_21 ?_
  refine va_iast hx hb hK hP hD hS 1 0 rfl rfl (show ¬ ((8 : Int32) < 0 ∨ 400 ≤ Int32.toNatClampNeg 8) by decide) dX12_four_22 (fun H locs hP hD hS => ?_)
  refine lv_aload_n hx hb dX12_four_23 rfl (lv_at hl 1 rfl) ?_
  refine lv_dup hx hb dX12_four_24 rfl ?_
  refine va_get (D := (dC, dI)) (ci := 12) (v := .int 8) (C := RX12) (T := TX12) (N := 59) hx hb hts i_X12_four_X12 hown hK hP 0 rfl rfl 9 (by decide) (hts _ m_X12_four_1) (fun _ h9 => h9) rfl dX12_four_25 ?_
  refine lv_iconst (v := 1) hx hb dX12_four_28 (by decide) ?_
  refine lv_iadd hx hb dX12_four_29 ?_
  refine tk_i 9 (by decide) ?_
  refine va_put (D := (dC, dI)) (ci := 12) (v := .int 9) (ty := .int) (C := RX12) (T := TX12) (N := 59) hx hb hts i_X12_four_X12 tyX12 tyX12_ok nmX12 hown hK hP hD hS 0 rfl rfl 9 (by decide) (hts _ m_X12_four_1) (fun _ h9 => h9) rfl (by decide +kernel) rfl rfl (Nat.le_of_ble_eq_true rfl) dX12_four_30 (fun H locs hP hD hS => ?_)
  refine lv_iinc (v := 16) (lv' := [(2, .int 16), (0, .ref (b 0)), (1, .int p0)]) hx hb dX12_four_33 hl (k := 0) rfl (by decide) (by decide) rfl (fun ls hl => ?_)
  refine lv_goto (tgt := 3) hx hb dX12_four_36 (by decide) ?_
  refine lv_iload_n hx hb dX12_four_3 rfl (lv_at hl 0 rfl) ?_
  refine lv_if_lt (tgt := 39) hx hb dX12_four_4 (by decide) (fun c9_ => absurd c9_ (by decide)) (fun _ => ?_)
  refine lv_aload_n hx hb dX12_four_7 rfl (lv_at hl 1 rfl) ?_
  refine va_get (D := (dC, dI)) (ci := 12) (v := .ref (b 6)) (C := RX12) (T := TX12) (N := 59) hx hb hts i_X12_four_X12 hown hK hP 0 rfl rfl 8 (by decide) (hts _ m_X12_four_0) (fun _ h9 => h9) rfl dX12_four_8 ?_
  refine lv_aload_n hx hb dX12_four_11 rfl (lv_at hl 1 rfl) ?_
  refine va_get (D := (dC, dI)) (ci := 12) (v := .int 9) (C := RX12) (T := TX12) (N := 59) hx hb hts i_X12_four_X12 hown hK hP 0 rfl rfl 9 (by decide) (hts _ m_X12_four_1) (fun _ h9 => h9) rfl dX12_four_12 ?_
  refine lv_iload_n hx hb dX12_four_15 rfl (lv_at hl 2 rfl) ?_
  refine lv_iload_n hx hb dX12_four_16 rfl (lv_at hl 0 rfl) ?_
  refine lv_ishr hx hb dX12_four_17 ?_
  refine lv_sipush (v := 255) hx hb dX12_four_18 (by decide) ?_
  refine lv_iand hx hb dX12_four_21 ?_
  refine va_iast hx hb hK hP hD hS 1 0 rfl rfl (show ¬ ((9 : Int32) < 0 ∨ 400 ≤ Int32.toNatClampNeg 9) by decide) dX12_four_22 (fun H locs hP hD hS => ?_)
  refine lv_aload_n hx hb dX12_four_23 rfl (lv_at hl 1 rfl) ?_
  refine lv_dup hx hb dX12_four_24 rfl ?_
  refine va_get (D := (dC, dI)) (ci := 12) (v := .int 9) (C := RX12) (T := TX12) (N := 59) hx hb hts i_X12_four_X12 hown hK hP 0 rfl rfl 9 (by decide) (hts _ m_X12_four_1) (fun _ h9 => h9) rfl dX12_four_25 ?_
  refine lv_iconst (v := 1) hx hb dX12_four_28 (by decide) ?_
  refine lv_iadd hx hb dX12_four_29 ?_
  refine tk_i 10 (by decide) ?_
  refine va_put (D := (dC, dI)) (ci := 12) (v := .int 10) (ty := .int) (C := RX12) (T := TX12) (N := 59) hx hb hts i_X12_four_X12 tyX12 tyX12_ok nmX12 hown hK hP hD hS 0 rfl rfl 9 (by decide) (hts _ m_X12_four_1) (fun _ h9 => h9) rfl (by decide +kernel) rfl rfl (Nat.le_of_ble_eq_true rfl) dX12_four_30 (fun H locs hP hD hS => ?_)
  refine lv_iinc (v := 8) (lv' := [(2, .int 8), (0, .ref (b 0)), (1, .int p0)]) hx hb dX12_four_33 hl (k := 0) rfl (by decide) (by decide) rfl (fun ls hl => ?_)
  refine lv_goto (tgt := 3) hx hb dX12_four_36 (by decide) ?_
  refine lv_iload_n hx hb dX12_four_3 rfl (lv_at hl 0 rfl) ?_
  refine lv_if_lt (tgt := 39) hx hb dX12_four_4 (by decide) (fun c9_ => absurd c9_ (by decide)) (fun _ => ?_)
  refine lv_aload_n hx hb dX12_four_7 rfl (lv_at hl 1 rfl) ?_
  refine va_get (D := (dC, dI)) (ci := 12) (v := .ref (b 6)) (C := RX12) (T := TX12) (N := 59) hx hb hts i_X12_four_X12 hown hK hP 0 rfl rfl 8 (by decide) (hts _ m_X12_four_0) (fun _ h9 => h9) rfl dX12_four_8 ?_
  refine lv_aload_n hx hb dX12_four_11 rfl (lv_at hl 1 rfl) ?_
  refine va_get (D := (dC, dI)) (ci := 12) (v := .int 10) (C := RX12) (T := TX12) (N := 59) hx hb hts i_X12_four_X12 hown hK hP 0 rfl rfl 9 (by decide) (hts _ m_X12_four_1) (fun _ h9 => h9) rfl dX12_four_12 ?_
  refine lv_iload_n hx hb dX12_four_15 rfl (lv_at hl 2 rfl) ?_
  refine lv_iload_n hx hb dX12_four_16 rfl (lv_at hl 0 rfl) ?_
  refine lv_ishr hx hb dX12_four_17 ?_
  refine lv_sipush (v := 255) hx hb dX12_four_18 (by decide) ?_
  refine lv_iand hx hb dX12_four_21 ?_
  refine va_iast hx hb hK hP hD hS 1 0 rfl rfl (show ¬ ((10 : Int32) < 0 ∨ 400 ≤ Int32.toNatClampNeg 10) by decide) dX12_four_22 (fun H locs hP hD hS => ?_)
  refine lv_aload_n hx hb dX12_four_23 rfl (lv_at hl 1 rfl) ?_
  refine lv_dup hx hb dX12_four_24 rfl ?_
  refine va_get (D := (dC, dI)) (ci := 12) (v := .int 10) (C := RX12) (T := TX12) (N := 59) hx hb hts i_X12_four_X12 hown hK hP 0 rfl rfl 9 (by decide) (hts _ m_X12_four_1) (fun _ h9 => h9) rfl dX12_four_25 ?_
  refine lv_iconst (v := 1) hx hb dX12_four_28 (by decide) ?_
  refine lv_iadd hx hb dX12_four_29 ?_
  refine tk_i 11 (by decide) ?_
  refine va_put (D := (dC, dI)) (ci := 12) (v := .int 11) (ty := .int) (C := RX12) (T := TX12) (N := 59) hx hb hts i_X12_four_X12 tyX12 tyX12_ok nmX12 hown hK hP hD hS 0 rfl rfl 9 (by decide) (hts _ m_X12_four_1) (fun _ h9 => h9) rfl (by decide +kernel) rfl rfl (Nat.le_of_ble_eq_true rfl) dX12_four_30 (fun H locs hP hD hS => ?_)
  refine lv_iinc (v := 0) (lv' := [(2, .int 0), (0, .ref (b 0)), (1, .int p0)]) hx hb dX12_four_33 hl (k := 0) rfl (by decide) (by decide) rfl (fun ls hl => ?_)
  refine lv_goto (tgt := 3) hx hb dX12_four_36 (by decide) ?_
  refine lv_iload_n hx hb dX12_four_3 rfl (lv_at hl 0 rfl) ?_
  refine lv_if_lt (tgt := 39) hx hb dX12_four_4 (by decide) (fun c9_ => absurd c9_ (by decide)) (fun _ => ?_)
  refine lv_aload_n hx hb dX12_four_7 rfl (lv_at hl 1 rfl) ?_
  refine va_get (D := (dC, dI)) (ci := 12) (v := .ref (b 6)) (C := RX12) (T := TX12) (N := 59) hx hb hts i_X12_four_X12 hown hK hP 0 rfl rfl 8 (by decide) (hts _ m_X12_four_0) (fun _ h9 => h9) rfl dX12_four_8 ?_
  refine lv_aload_n hx hb dX12_four_11 rfl (lv_at hl 1 rfl) ?_
  refine va_get (D := (dC, dI)) (ci := 12) (v := .int 11) (C := RX12) (T := TX12) (N := 59) hx hb hts i_X12_four_X12 hown hK hP 0 rfl rfl 9 (by decide) (hts _ m_X12_four_1) (fun _ h9 => h9) rfl dX12_four_12 ?_
  refine lv_iload_n hx hb dX12_four_15 rfl (lv_at hl 2 rfl) ?_
  refine lv_iload_n hx hb dX12_four_16 rfl (lv_at hl 0 rfl) ?_
  refine lv_ishr hx hb dX12_four_17 ?_
  refine lv_sipush (v := 255) hx hb dX12_four_18 (by decide) ?_
  refine lv_iand hx hb dX12_four_21 ?_
  refine va_iast hx hb hK hP hD hS 1 0 rfl rfl (show ¬ ((11 : Int32) < 0 ∨ 400 ≤ Int32.toNatClampNeg 11) by decide) dX12_four_22 (fun H locs hP hD hS => ?_)
  refine lv_aload_n hx hb dX12_four_23 rfl (lv_at hl 1 rfl) ?_
  refine lv_dup hx hb dX12_four_24 rfl ?_
  refine va_get (D := (dC, dI)) (ci := 12) (v := .int 11) (C := RX12) (T := TX12) (N := 59) hx hb hts i_X12_four_X12 hown hK hP 0 rfl rfl 9 (by decide) (hts _ m_X12_four_1) (fun _ h9 => h9) rfl dX12_four_25 ?_
  refine lv_iconst (v := 1) hx hb dX12_four_28 (by decide) ?_
  refine lv_iadd hx hb dX12_four_29 ?_
  refine tk_i 12 (by decide) ?_
  refine va_put (D := (dC, dI)) (ci := 12) (v := .int 12) (ty := .int) (C := RX12) (T := TX12) (N := 59) hx hb hts i_X12_four_X12 tyX12 tyX12_ok nmX12 hown hK hP hD hS 0 rfl rfl 9 (by decide) (hts _ m_X12_four_1) (fun _ h9 => h9) rfl (by decide +kernel) rfl rfl (Nat.le_of_ble_eq_true rfl) dX12_four_30 (fun H locs hP hD hS => ?_)
  refine lv_iinc (v := (-8)) (lv' := [(2, .int (-8)), (0, .ref (b 0)), (1, .int p0)]) hx hb dX12_four_33 hl (k := 0) rfl (by decide) (by decide) rfl (fun ls hl => ?_)
  refine lv_goto (tgt := 3) hx hb dX12_four_36 (by decide) ?_
  refine lv_iload_n hx hb dX12_four_3 rfl (lv_at hl 0 rfl) ?_
  refine lv_if_lt (tgt := 39) hx hb dX12_four_4 (by decide) (fun _ => ?_) (fun c9_ => absurd (by decide) c9_)
  have hP9 := hP.sub (ws' := [(b 0, .inr (12, [.int 0, .int 0, .ref (b 1), .ref (b 2), .ref (b 3), .ref (b 4), .int 0, .ref (b 5), .ref (b 6), .int 12, .int 0, .int 0, .int (-1), .int 0, .ref (b 7), .ref (b 20), .int 0, .ref (b 21), .ref (b 22), .int 0, .int 0, .ref (b 23), .int 0, .int 0, .int 0, .int 0, .ref (b 24), .ref (b 25), .ref (b 26), .int 0, .ref (b 27), .int 0, .ref (b 28), .ref (b 29), .ref (b 30), .ref (b 31), .ref (b 32), .ref (b 33), .ref (b 34), .int 0, .int 0, .int 0, .int 0, .int 0, .int 0, .ref (b 35), .ref (b 36), .ref (b 37), .int 0, .int 0, .int 0, .ref (b 38), .int 0, .int 0, .ref (b 39), .ref (b 40), .ref (b 41), .ref (b 42), .int 0])), (b 6, .inl (cy 0, 400, .inl (upd (upd (upd (upd f 8 ((p0 >>> (24 &&& 31)) &&& 255)) 9 ((p0 >>> (16 &&& 31)) &&& 255)) 10 ((p0 >>> (8 &&& 31)) &&& 255)) 11 ((p0 >>> (0 &&& 31)) &&& 255))))]) [0, 1] rfl
  have hD9 := hD.sub (ws' := [(b 0, .inr (12, [.int 0, .int 0, .ref (b 1), .ref (b 2), .ref (b 3), .ref (b 4), .int 0, .ref (b 5), .ref (b 6), .int 12, .int 0, .int 0, .int (-1), .int 0, .ref (b 7), .ref (b 20), .int 0, .ref (b 21), .ref (b 22), .int 0, .int 0, .ref (b 23), .int 0, .int 0, .int 0, .int 0, .ref (b 24), .ref (b 25), .ref (b 26), .int 0, .ref (b 27), .int 0, .ref (b 28), .ref (b 29), .ref (b 30), .ref (b 31), .ref (b 32), .ref (b 33), .ref (b 34), .int 0, .int 0, .int 0, .int 0, .int 0, .int 0, .ref (b 35), .ref (b 36), .ref (b 37), .int 0, .int 0, .int 0, .ref (b 38), .int 0, .int 0, .ref (b 39), .ref (b 40), .ref (b 41), .ref (b 42), .int 0])), (b 6, .inl (cy 0, 400, .inl (upd (upd (upd (upd f 8 ((p0 >>> (24 &&& 31)) &&& 255)) 9 ((p0 >>> (16 &&& 31)) &&& 255)) 10 ((p0 >>> (8 &&& 31)) &&& 255)) 11 ((p0 >>> (0 &&& 31)) &&& 255))))]) [0, 1] (by decide) rfl
  exact W.vret hx hb hr (fun t ht hW => ⟨⟨((fun k => [].getD k 0, fun k => [(upd (upd (upd (upd f 8 ((p0 >>> (24 &&& 31)) &&& 255)) 9 ((p0 >>> (16 &&& 31)) &&& 255)) 10 ((p0 >>> (8 &&& 31)) &&& 255)) 11 ((p0 >>> (0 &&& 31)) &&& 255))].getD k (fun _ => 0), fun k => [].getD k (fun _ => none)) : uS), rfl, trivial, (by rw [ht]; exact hP9), hD9⟩, hS.F ht⟩) hS.2.2 dX12_four_39

set_option maxHeartbeats 4000000 in
set_option maxRecDepth 100000 in
theorem c_X12_four_12 (l : Launch) (dC : Nat → ClassId) (dI : Nat → Nat → Nat) (cy : Nat → ClassId) (b : Nat → Nat) (f : Nat → Int32) (sz : Nat) (p0 : Int32) : Met l yX12_four v_X12_four ({ frames := 0, cells := 0, slots := 0, locals := 0 }) (va_Pc [.ref (b 0), .int p0] (ps dC dI cy ([(b 0, .inr (12, [.int 0, .int 0, .ref (b 1), .ref (b 2), .ref (b 3), .ref (b 4), .int 0, .ref (b 5), .ref (b 6), .int 12, .int 0, .int 0, .int (-1), .int 0, .ref (b 7), .ref (b 20), .int 0, .ref (b 21), .ref (b 22), .int 0, .int 0, .ref (b 23), .int 0, .int 0, .int 0, .int 0, .ref (b 24), .ref (b 25), .ref (b 26), .int 0, .ref (b 27), .int 0, .ref (b 28), .ref (b 29), .ref (b 30), .ref (b 31), .ref (b 32), .ref (b 33), .ref (b 34), .int 0, .int 0, .int 0, .int 0, .int 0, .int 0, .ref (b 35), .ref (b 36), .ref (b 37), .int 0, .int 0, .int 0, .ref (b 38), .int 0, .int 0, .ref (b 39), .ref (b 40), .ref (b 41), .ref (b 42), .int 0])), (b 6, .inl (cy 0, 400, .inl f))]) sz)) (va_Qv (fun (_ : uS) => True) (fun (u : uS) (t : State) => va_P (dC, dI) vwCl ([(b 0, .inr (12, [.int 0, .int 0, .ref (b 1), .ref (b 2), .ref (b 3), .ref (b 4), .int 0, .ref (b 5), .ref (b 6), .int 16, .int 0, .int 0, .int (-1), .int 0, .ref (b 7), .ref (b 20), .int 0, .ref (b 21), .ref (b 22), .int 0, .int 0, .ref (b 23), .int 0, .int 0, .int 0, .int 0, .ref (b 24), .ref (b 25), .ref (b 26), .int 0, .ref (b 27), .int 0, .ref (b 28), .ref (b 29), .ref (b 30), .ref (b 31), .ref (b 32), .ref (b 33), .ref (b 34), .int 0, .int 0, .int 0, .int 0, .int 0, .int 0, .ref (b 35), .ref (b 36), .ref (b 37), .int 0, .int 0, .int 0, .ref (b 38), .int 0, .int 0, .ref (b 39), .ref (b 40), .ref (b 41), .ref (b 42), .int 0])), (b 6, .inl (cy 0, 400, .inl (u.2.1 0)))]) t.heap ∧ va_D (va_A ([(b 0, .inr (12, [.int 0, .int 0, .ref (b 1), .ref (b 2), .ref (b 3), .ref (b 4), .int 0, .ref (b 5), .ref (b 6), .int 12, .int 0, .int 0, .int (-1), .int 0, .ref (b 7), .ref (b 20), .int 0, .ref (b 21), .ref (b 22), .int 0, .int 0, .ref (b 23), .int 0, .int 0, .int 0, .int 0, .ref (b 24), .ref (b 25), .ref (b 26), .int 0, .ref (b 27), .int 0, .ref (b 28), .ref (b 29), .ref (b 30), .ref (b 31), .ref (b 32), .ref (b 33), .ref (b 34), .int 0, .int 0, .int 0, .int 0, .int 0, .int 0, .ref (b 35), .ref (b 36), .ref (b 37), .int 0, .int 0, .int 0, .ref (b 38), .int 0, .int 0, .ref (b 39), .ref (b 40), .ref (b 41), .ref (b 42), .int 0])), (b 6, .inl (cy 0, 400, .inl f))]) sz) ([(b 0, .inr (12, [.int 0, .int 0, .ref (b 1), .ref (b 2), .ref (b 3), .ref (b 4), .int 0, .ref (b 5), .ref (b 6), .int 16, .int 0, .int 0, .int (-1), .int 0, .ref (b 7), .ref (b 20), .int 0, .ref (b 21), .ref (b 22), .int 0, .int 0, .ref (b 23), .int 0, .int 0, .int 0, .int 0, .ref (b 24), .ref (b 25), .ref (b 26), .int 0, .ref (b 27), .int 0, .ref (b 28), .ref (b 29), .ref (b 30), .ref (b 31), .ref (b 32), .ref (b 33), .ref (b 34), .int 0, .int 0, .int 0, .int 0, .int 0, .int 0, .ref (b 35), .ref (b 36), .ref (b 37), .int 0, .int 0, .int 0, .ref (b 38), .int 0, .int 0, .ref (b 39), .ref (b 40), .ref (b 41), .ref (b 42), .int 0])), (b 6, .inl (cy 0, 400, .inl (u.2.1 0)))])) (va_A ([(b 0, .inr (12, [.int 0, .int 0, .ref (b 1), .ref (b 2), .ref (b 3), .ref (b 4), .int 0, .ref (b 5), .ref (b 6), .int 12, .int 0, .int 0, .int (-1), .int 0, .ref (b 7), .ref (b 20), .int 0, .ref (b 21), .ref (b 22), .int 0, .int 0, .ref (b 23), .int 0, .int 0, .int 0, .int 0, .ref (b 24), .ref (b 25), .ref (b 26), .int 0, .ref (b 27), .int 0, .ref (b 28), .ref (b 29), .ref (b 30), .ref (b 31), .ref (b 32), .ref (b 33), .ref (b 34), .int 0, .int 0, .int 0, .int 0, .int 0, .int 0, .ref (b 35), .ref (b 36), .ref (b 37), .int 0, .int 0, .int 0, .ref (b 38), .int 0, .int 0, .ref (b 39), .ref (b 40), .ref (b 41), .ref (b 42), .int 0])), (b 6, .inl (cy 0, 400, .inl f))]) sz)) 0 0 (va_A ([(b 0, .inr (12, [.int 0, .int 0, .ref (b 1), .ref (b 2), .ref (b 3), .ref (b 4), .int 0, .ref (b 5), .ref (b 6), .int 12, .int 0, .int 0, .int (-1), .int 0, .ref (b 7), .ref (b 20), .int 0, .ref (b 21), .ref (b 22), .int 0, .int 0, .ref (b 23), .int 0, .int 0, .int 0, .int 0, .ref (b 24), .ref (b 25), .ref (b 26), .int 0, .ref (b 27), .int 0, .ref (b 28), .ref (b 29), .ref (b 30), .ref (b 31), .ref (b 32), .ref (b 33), .ref (b 34), .int 0, .int 0, .int 0, .int 0, .int 0, .int 0, .ref (b 35), .ref (b 36), .ref (b 37), .int 0, .int 0, .int 0, .ref (b 38), .int 0, .int 0, .ref (b 39), .ref (b 40), .ref (b 41), .ref (b 42), .int 0])), (b 6, .inl (cy 0, 400, .inl f))]) sz) := by
  refine Met.ofW (cc := cX12_four) (maxL := 3) (ret := none) (by decide) rfl ?_
  intro p e s m args below meth c s₁ B hml hv
  obtain ⟨rfl, hsz, hP, hC, hD0⟩ := hv
  have hK := hC.1
  have hx := B.exec
  have hb := B.bytes
  have hr := B.returns
  have hts := atoms_spec (ws := v_X12_four) B.pre
  have hown : s.vm.findClass RX12 = some m.cls := findClass_of_methodNamed B.named
  have hlocks := B.notSynchronized
  subst hsz
  have hD := hD0.self (sz := s.heap.size)
  generalize hAe : va_A ([(b 0, .inr (12, [.int 0, .int 0, .ref (b 1), .ref (b 2), .ref (b 3), .ref (b 4), .int 0, .ref (b 5), .ref (b 6), .int 12, .int 0, .int 0, .int (-1), .int 0, .ref (b 7), .ref (b 20), .int 0, .ref (b 21), .ref (b 22), .int 0, .int 0, .ref (b 23), .int 0, .int 0, .int 0, .int 0, .ref (b 24), .ref (b 25), .ref (b 26), .int 0, .ref (b 27), .int 0, .ref (b 28), .ref (b 29), .ref (b 30), .ref (b 31), .ref (b 32), .ref (b 33), .ref (b 34), .int 0, .int 0, .int 0, .int 0, .int 0, .int 0, .ref (b 35), .ref (b 36), .ref (b 37), .int 0, .int 0, .int 0, .ref (b 38), .int 0, .int 0, .ref (b 39), .ref (b 40), .ref (b 41), .ref (b 42), .int 0])), (b 6, .inl (cy 0, 400, .inl f))]) s.heap.size = A at hD ⊢
  have hA : ∀ q : Nat, s.heap.size ≤ q → A q := fun q h => by rw [← hAe]; exact Or.inr h
  have hS : va_S A s.heap s.heap [] := va_S.rf
  have hl := lv_entry ([.ref (b 0), .int p0]) (n := 3) (Nat.le_of_ble_eq_true rfl)
  rw [lg_entry_eq]
  generalize (lg_sl ([.ref (b 0), .int p0]) ++ List.replicate (3 - (lg_sl ([.ref (b 0), .int p0])).length) Slot.unset).toArray = ls at hl ⊢
  have hl : lv_has ls 3 [(0, .ref (b 0)), (1, .int p0)] := hl
  refine lv_bipush (v := 24) hx hb dX12_four_0 (by decide) ?_
  refine lv_istore_n (lv' := [(2, .int 24), (0, .ref (b 0)), (1, .int p0)]) hx hb dX12_four_2 rfl hl (by decide) rfl (fun ls hl => ?_)
  refine lv_iload_n hx hb dX12_four_3 rfl (lv_at hl 0 rfl) ?_
  refine lv_if_lt (tgt := 39) hx hb dX12_four_4 (by decide) (fun c9_ => absurd c9_ (by decide)) (fun _ => ?_)
  refine lv_aload_n hx hb dX12_four_7 rfl (lv_at hl 1 rfl) ?_
  refine va_get (D := (dC, dI)) (ci := 12) (v := .ref (b 6)) (C := RX12) (T := TX12) (N := 59) hx hb hts i_X12_four_X12 hown hK hP 0 rfl rfl 8 (by decide) (hts _ m_X12_four_0) (fun _ h9 => h9) rfl dX12_four_8 ?_
  refine lv_aload_n hx hb dX12_four_11 rfl (lv_at hl 1 rfl) ?_
  refine va_get (D := (dC, dI)) (ci := 12) (v := .int 12) (C := RX12) (T := TX12) (N := 59) hx hb hts i_X12_four_X12 hown hK hP 0 rfl rfl 9 (by decide) (hts _ m_X12_four_1) (fun _ h9 => h9) rfl dX12_four_12 ?_
  refine lv_iload_n hx hb dX12_four_15 rfl (lv_at hl 2 rfl) ?_
  refine lv_iload_n hx hb dX12_four_16 rfl (lv_at hl 0 rfl) ?_
  refine lv_ishr hx hb dX12_four_17 ?_
  refine lv_sipush (v := 255) hx hb dX12_four_18 (by decide) ?_
  refine lv_iand hx hb dX12_four_21 ?_
  refine va_iast hx hb hK hP hD hS 1 0 rfl rfl (show ¬ ((12 : Int32) < 0 ∨ 400 ≤ Int32.toNatClampNeg 12) by decide) dX12_four_22 (fun H locs hP hD hS => ?_)
  refine lv_aload_n hx hb dX12_four_23 rfl (lv_at hl 1 rfl) ?_
  refine lv_dup hx hb dX12_four_24 rfl ?_
  refine va_get (D := (dC, dI)) (ci := 12) (v := .int 12) (C := RX12) (T := TX12) (N := 59) hx hb hts i_X12_four_X12 hown hK hP 0 rfl rfl 9 (by decide) (hts _ m_X12_four_1) (fun _ h9 => h9) rfl dX12_four_25 ?_
  refine lv_iconst (v := 1) hx hb dX12_four_28 (by decide) ?_
  refine lv_iadd hx hb dX12_four_29 ?_
  refine tk_i 13 (by decide) ?_
  refine va_put (D := (dC, dI)) (ci := 12) (v := .int 13) (ty := .int) (C := RX12) (T := TX12) (N := 59) hx hb hts i_X12_four_X12 tyX12 tyX12_ok nmX12 hown hK hP hD hS 0 rfl rfl 9 (by decide) (hts _ m_X12_four_1) (fun _ h9 => h9) rfl (by decide +kernel) rfl rfl (Nat.le_of_ble_eq_true rfl) dX12_four_30 (fun H locs hP hD hS => ?_)
  refine lv_iinc (v := 16) (lv' := [(2, .int 16), (0, .ref (b 0)), (1, .int p0)]) hx hb dX12_four_33 hl (k := 0) rfl (by decide) (by decide) rfl (fun ls hl => ?_)
  refine lv_goto (tgt := 3) hx hb dX12_four_36 (by decide) ?_
  refine lv_iload_n hx hb dX12_four_3 rfl (lv_at hl 0 rfl) ?_
  refine lv_if_lt (tgt := 39) hx hb dX12_four_4 (by decide) (fun c9_ => absurd c9_ (by decide)) (fun _ => ?_)
  refine lv_aload_n hx hb dX12_four_7 rfl (lv_at hl 1 rfl) ?_
  refine va_get (D := (dC, dI)) (ci := 12) (v := .ref (b 6)) (C := RX12) (T := TX12) (N := 59) hx hb hts i_X12_four_X12 hown hK hP 0 rfl rfl 8 (by decide) (hts _ m_X12_four_0) (fun _ h9 => h9) rfl dX12_four_8 ?_
  refine lv_aload_n hx hb dX12_four_11 rfl (lv_at hl 1 rfl) ?_
  refine va_get (D := (dC, dI)) (ci := 12) (v := .int 13) (C := RX12) (T := TX12) (N := 59) hx hb hts i_X12_four_X12 hown hK hP 0 rfl rfl 9 (by decide) (hts _ m_X12_four_1) (fun _ h9 => h9) rfl dX12_four_12 ?_
  refine lv_iload_n hx hb dX12_four_15 rfl (lv_at hl 2 rfl) ?_
  refine lv_iload_n hx hb dX12_four_16 rfl (lv_at hl 0 rfl) ?_
  refine lv_ishr hx hb dX12_four_17 ?_
  refine lv_sipush (v := 255) hx hb dX12_four_18 (by decide) ?_
  refine lv_iand hx hb dX12_four_21 ?_
  refine va_iast hx hb hK hP hD hS 1 0 rfl rfl (show ¬ ((13 : Int32) < 0 ∨ 400 ≤ Int32.toNatClampNeg 13) by decide) dX12_four_22 (fun H locs hP hD hS => ?_)
  refine lv_aload_n hx hb dX12_four_23 rfl (lv_at hl 1 rfl) ?_
  refine lv_dup hx hb dX12_four_24 rfl ?_
  refine va_get (D := (dC, dI)) (ci := 12) (v := .int 13) (C := RX12) (T := TX12) (N := 59) hx hb hts i_X12_four_X12 hown hK hP 0 rfl rfl 9 (by decide) (hts _ m_X12_four_1) (fun _ h9 => h9) rfl dX12_four_25 ?_
  refine lv_iconst (v := 1) hx hb dX12_four_28 (by decide) ?_
  refine lv_iadd hx hb dX12_four_29 ?_
  refine tk_i 14 (by decide) ?_
  refine va_put (D := (dC, dI)) (ci := 12) (v := .int 14) (ty := .int) (C := RX12) (T := TX12) (N := 59) hx hb hts i_X12_four_X12 tyX12 tyX12_ok nmX12 hown hK hP hD hS 0 rfl rfl 9 (by decide) (hts _ m_X12_four_1) (fun _ h9 => h9) rfl (by decide +kernel) rfl rfl (Nat.le_of_ble_eq_true rfl) dX12_four_30 (fun H locs hP hD hS => ?_)
  refine lv_iinc (v := 8) (lv' := [(2, .int 8), (0, .ref (b 0)), (1, .int p0)]) hx hb dX12_four_33 hl (k := 0) rfl (by decide) (by decide) rfl (fun ls hl => ?_)
  refine lv_goto (tgt := 3) hx hb dX12_four_36 (by decide) ?_
  refine lv_iload_n hx hb dX12_four_3 rfl (lv_at hl 0 rfl) ?_
  refine lv_if_lt (tgt := 39) hx hb dX12_four_4 (by decide) (fun c9_ => absurd c9_ (by decide)) (fun _ => ?_)
  refine lv_aload_n hx hb dX12_four_7 rfl (lv_at hl 1 rfl) ?_
  refine va_get (D := (dC, dI)) (ci := 12) (v := .ref (b 6)) (C := RX12) (T := TX12) (N := 59) hx hb hts i_X12_four_X12 hown hK hP 0 rfl rfl 8 (by decide) (hts _ m_X12_four_0) (fun _ h9 => h9) rfl dX12_four_8 ?_
  refine lv_aload_n hx hb dX12_four_11 rfl (lv_at hl 1 rfl) ?_
  refine va_get (D := (dC, dI)) (ci := 12) (v := .int 14) (C := RX12) (T := TX12) (N := 59) hx hb hts i_X12_four_X12 hown hK hP 0 rfl rfl 9 (by decide) (hts _ m_X12_four_1) (fun _ h9 => h9) rfl dX12_four_12 ?_
  refine lv_iload_n hx hb dX12_four_15 rfl (lv_at hl 2 rfl) ?_
  refine lv_iload_n hx hb dX12_four_16 rfl (lv_at hl 0 rfl) ?_
  refine lv_ishr hx hb dX12_four_17 ?_
  refine lv_sipush (v := 255) hx hb dX12_four_18 (by decide) ?_
  refine lv_iand hx hb dX12_four_21 ?_
  refine va_iast hx hb hK hP hD hS 1 0 rfl rfl (show ¬ ((14 : Int32) < 0 ∨ 400 ≤ Int32.toNatClampNeg 14) by decide) dX12_four_22 (fun H locs hP hD hS => ?_)
  refine lv_aload_n hx hb dX12_four_23 rfl (lv_at hl 1 rfl) ?_
  refine lv_dup hx hb dX12_four_24 rfl ?_
  refine va_get (D := (dC, dI)) (ci := 12) (v := .int 14) (C := RX12) (T := TX12) (N := 59) hx hb hts i_X12_four_X12 hown hK hP 0 rfl rfl 9 (by decide) (hts _ m_X12_four_1) (fun _ h9 => h9) rfl dX12_four_25 ?_
  refine lv_iconst (v := 1) hx hb dX12_four_28 (by decide) ?_
  refine lv_iadd hx hb dX12_four_29 ?_
  refine tk_i 15 (by decide) ?_
  refine va_put (D := (dC, dI)) (ci := 12) (v := .int 15) (ty := .int) (C := RX12) (T := TX12) (N := 59) hx hb hts i_X12_four_X12 tyX12 tyX12_ok nmX12 hown hK hP hD hS 0 rfl rfl 9 (by decide) (hts _ m_X12_four_1) (fun _ h9 => h9) rfl (by decide +kernel) rfl rfl (Nat.le_of_ble_eq_true rfl) dX12_four_30 (fun H locs hP hD hS => ?_)
  refine lv_iinc (v := 0) (lv' := [(2, .int 0), (0, .ref (b 0)), (1, .int p0)]) hx hb dX12_four_33 hl (k := 0) rfl (by decide) (by decide) rfl (fun ls hl => ?_)
  refine lv_goto (tgt := 3) hx hb dX12_four_36 (by decide) ?_
  refine lv_iload_n hx hb dX12_four_3 rfl (lv_at hl 0 rfl) ?_
  refine lv_if_lt (tgt := 39) hx hb dX12_four_4 (by decide) (fun c9_ => absurd c9_ (by decide)) (fun _ => ?_)
  refine lv_aload_n hx hb dX12_four_7 rfl (lv_at hl 1 rfl) ?_
  refine va_get (D := (dC, dI)) (ci := 12) (v := .ref (b 6)) (C := RX12) (T := TX12) (N := 59) hx hb hts i_X12_four_X12 hown hK hP 0 rfl rfl 8 (by decide) (hts _ m_X12_four_0) (fun _ h9 => h9) rfl dX12_four_8 ?_
  refine lv_aload_n hx hb dX12_four_11 rfl (lv_at hl 1 rfl) ?_
  refine va_get (D := (dC, dI)) (ci := 12) (v := .int 15) (C := RX12) (T := TX12) (N := 59) hx hb hts i_X12_four_X12 hown hK hP 0 rfl rfl 9 (by decide) (hts _ m_X12_four_1) (fun _ h9 => h9) rfl dX12_four_12 ?_
  refine lv_iload_n hx hb dX12_four_15 rfl (lv_at hl 2 rfl) ?_
  refine lv_iload_n hx hb dX12_four_16 rfl (lv_at hl 0 rfl) ?_
  refine lv_ishr hx hb dX12_four_17 ?_
  refine lv_sipush (v := 255) hx hb dX12_four_18 (by decide) ?_
  refine lv_iand hx hb dX12_four_21 ?_
  refine va_iast hx hb hK hP hD hS 1 0 rfl rfl (show ¬ ((15 : Int32) < 0 ∨ 400 ≤ Int32.toNatClampNeg 15) by decide) dX12_four_22 (fun H locs hP hD hS => ?_)
  refine lv_aload_n hx hb dX12_four_23 rfl (lv_at hl 1 rfl) ?_
  refine lv_dup hx hb dX12_four_24 rfl ?_
  refine va_get (D := (dC, dI)) (ci := 12) (v := .int 15) (C := RX12) (T := TX12) (N := 59) hx hb hts i_X12_four_X12 hown hK hP 0 rfl rfl 9 (by decide) (hts _ m_X12_four_1) (fun _ h9 => h9) rfl dX12_four_25 ?_
  refine lv_iconst (v := 1) hx hb dX12_four_28 (by decide) ?_
  refine lv_iadd hx hb dX12_four_29 ?_
  refine tk_i 16 (by decide) ?_
  refine va_put (D := (dC, dI)) (ci := 12) (v := .int 16) (ty := .int) (C := RX12) (T := TX12) (N := 59) hx hb hts i_X12_four_X12 tyX12 tyX12_ok nmX12 hown hK hP hD hS 0 rfl rfl 9 (by decide) (hts _ m_X12_four_1) (fun _ h9 => h9) rfl (by decide +kernel) rfl rfl (Nat.le_of_ble_eq_true rfl) dX12_four_30 (fun H locs hP hD hS => ?_)
  refine lv_iinc (v := (-8)) (lv' := [(2, .int (-8)), (0, .ref (b 0)), (1, .int p0)]) hx hb dX12_four_33 hl (k := 0) rfl (by decide) (by decide) rfl (fun ls hl => ?_)
  refine lv_goto (tgt := 3) hx hb dX12_four_36 (by decide) ?_
  refine lv_iload_n hx hb dX12_four_3 rfl (lv_at hl 0 rfl) ?_
  refine lv_if_lt (tgt := 39) hx hb dX12_four_4 (by decide) (fun _ => ?_) (fun c9_ => absurd (by decide) c9_)
  have hP9 := hP.sub (ws' := [(b 0, .inr (12, [.int 0, .int 0, .ref (b 1), .ref (b 2), .ref (b 3), .ref (b 4), .int 0, .ref (b 5), .ref (b 6), .int 16, .int 0, .int 0, .int (-1), .int 0, .ref (b 7), .ref (b 20), .int 0, .ref (b 21), .ref (b 22), .int 0, .int 0, .ref (b 23), .int 0, .int 0, .int 0, .int 0, .ref (b 24), .ref (b 25), .ref (b 26), .int 0, .ref (b 27), .int 0, .ref (b 28), .ref (b 29), .ref (b 30), .ref (b 31), .ref (b 32), .ref (b 33), .ref (b 34), .int 0, .int 0, .int 0, .int 0, .int 0, .int 0, .ref (b 35), .ref (b 36), .ref (b 37), .int 0, .int 0, .int 0, .ref (b 38), .int 0, .int 0, .ref (b 39), .ref (b 40), .ref (b 41), .ref (b 42), .int 0])), (b 6, .inl (cy 0, 400, .inl (upd (upd (upd (upd f 12 ((p0 >>> (24 &&& 31)) &&& 255)) 13 ((p0 >>> (16 &&& 31)) &&& 255)) 14 ((p0 >>> (8 &&& 31)) &&& 255)) 15 ((p0 >>> (0 &&& 31)) &&& 255))))]) [0, 1] rfl
  have hD9 := hD.sub (ws' := [(b 0, .inr (12, [.int 0, .int 0, .ref (b 1), .ref (b 2), .ref (b 3), .ref (b 4), .int 0, .ref (b 5), .ref (b 6), .int 16, .int 0, .int 0, .int (-1), .int 0, .ref (b 7), .ref (b 20), .int 0, .ref (b 21), .ref (b 22), .int 0, .int 0, .ref (b 23), .int 0, .int 0, .int 0, .int 0, .ref (b 24), .ref (b 25), .ref (b 26), .int 0, .ref (b 27), .int 0, .ref (b 28), .ref (b 29), .ref (b 30), .ref (b 31), .ref (b 32), .ref (b 33), .ref (b 34), .int 0, .int 0, .int 0, .int 0, .int 0, .int 0, .ref (b 35), .ref (b 36), .ref (b 37), .int 0, .int 0, .int 0, .ref (b 38), .int 0, .int 0, .ref (b 39), .ref (b 40), .ref (b 41), .ref (b 42), .int 0])), (b 6, .inl (cy 0, 400, .inl (upd (upd (upd (upd f 12 ((p0 >>> (24 &&& 31)) &&& 255)) 13 ((p0 >>> (16 &&& 31)) &&& 255)) 14 ((p0 >>> (8 &&& 31)) &&& 255)) 15 ((p0 >>> (0 &&& 31)) &&& 255))))]) [0, 1] (by decide) rfl
  exact W.vret hx hb hr (fun t ht hW => ⟨⟨((fun k => [].getD k 0, fun k => [(upd (upd (upd (upd f 12 ((p0 >>> (24 &&& 31)) &&& 255)) 13 ((p0 >>> (16 &&& 31)) &&& 255)) 14 ((p0 >>> (8 &&& 31)) &&& 255)) 15 ((p0 >>> (0 &&& 31)) &&& 255))].getD k (fun _ => 0), fun k => [].getD k (fun _ => none)) : uS), rfl, trivial, (by rw [ht]; exact hP9), hD9⟩, hS.F ht⟩) hS.2.2 dX12_four_39

set_option maxHeartbeats 4000000 in
set_option maxRecDepth 100000 in
theorem c_X12_four_16 (l : Launch) (dC : Nat → ClassId) (dI : Nat → Nat → Nat) (cy : Nat → ClassId) (b : Nat → Nat) (f : Nat → Int32) (sz : Nat) (p0 : Int32) : Met l yX12_four v_X12_four ({ frames := 0, cells := 0, slots := 0, locals := 0 }) (va_Pc [.ref (b 0), .int p0] (ps dC dI cy ([(b 0, .inr (12, [.int 0, .int 0, .ref (b 1), .ref (b 2), .ref (b 3), .ref (b 4), .int 0, .ref (b 5), .ref (b 6), .int 16, .int 0, .int 0, .int (-1), .int 0, .ref (b 7), .ref (b 20), .int 0, .ref (b 21), .ref (b 22), .int 0, .int 0, .ref (b 23), .int 0, .int 0, .int 0, .int 0, .ref (b 24), .ref (b 25), .ref (b 26), .int 0, .ref (b 27), .int 0, .ref (b 28), .ref (b 29), .ref (b 30), .ref (b 31), .ref (b 32), .ref (b 33), .ref (b 34), .int 0, .int 0, .int 0, .int 0, .int 0, .int 0, .ref (b 35), .ref (b 36), .ref (b 37), .int 0, .int 0, .int 0, .ref (b 38), .int 0, .int 0, .ref (b 39), .ref (b 40), .ref (b 41), .ref (b 42), .int 0])), (b 6, .inl (cy 0, 400, .inl f))]) sz)) (va_Qv (fun (_ : uS) => True) (fun (u : uS) (t : State) => va_P (dC, dI) vwCl ([(b 0, .inr (12, [.int 0, .int 0, .ref (b 1), .ref (b 2), .ref (b 3), .ref (b 4), .int 0, .ref (b 5), .ref (b 6), .int 20, .int 0, .int 0, .int (-1), .int 0, .ref (b 7), .ref (b 20), .int 0, .ref (b 21), .ref (b 22), .int 0, .int 0, .ref (b 23), .int 0, .int 0, .int 0, .int 0, .ref (b 24), .ref (b 25), .ref (b 26), .int 0, .ref (b 27), .int 0, .ref (b 28), .ref (b 29), .ref (b 30), .ref (b 31), .ref (b 32), .ref (b 33), .ref (b 34), .int 0, .int 0, .int 0, .int 0, .int 0, .int 0, .ref (b 35), .ref (b 36), .ref (b 37), .int 0, .int 0, .int 0, .ref (b 38), .int 0, .int 0, .ref (b 39), .ref (b 40), .ref (b 41), .ref (b 42), .int 0])), (b 6, .inl (cy 0, 400, .inl (u.2.1 0)))]) t.heap ∧ va_D (va_A ([(b 0, .inr (12, [.int 0, .int 0, .ref (b 1), .ref (b 2), .ref (b 3), .ref (b 4), .int 0, .ref (b 5), .ref (b 6), .int 16, .int 0, .int 0, .int (-1), .int 0, .ref (b 7), .ref (b 20), .int 0, .ref (b 21), .ref (b 22), .int 0, .int 0, .ref (b 23), .int 0, .int 0, .int 0, .int 0, .ref (b 24), .ref (b 25), .ref (b 26), .int 0, .ref (b 27), .int 0, .ref (b 28), .ref (b 29), .ref (b 30), .ref (b 31), .ref (b 32), .ref (b 33), .ref (b 34), .int 0, .int 0, .int 0, .int 0, .int 0, .int 0, .ref (b 35), .ref (b 36), .ref (b 37), .int 0, .int 0, .int 0, .ref (b 38), .int 0, .int 0, .ref (b 39), .ref (b 40), .ref (b 41), .ref (b 42), .int 0])), (b 6, .inl (cy 0, 400, .inl f))]) sz) ([(b 0, .inr (12, [.int 0, .int 0, .ref (b 1), .ref (b 2), .ref (b 3), .ref (b 4), .int 0, .ref (b 5), .ref (b 6), .int 20, .int 0, .int 0, .int (-1), .int 0, .ref (b 7), .ref (b 20), .int 0, .ref (b 21), .ref (b 22), .int 0, .int 0, .ref (b 23), .int 0, .int 0, .int 0, .int 0, .ref (b 24), .ref (b 25), .ref (b 26), .int 0, .ref (b 27), .int 0, .ref (b 28), .ref (b 29), .ref (b 30), .ref (b 31), .ref (b 32), .ref (b 33), .ref (b 34), .int 0, .int 0, .int 0, .int 0, .int 0, .int 0, .ref (b 35), .ref (b 36), .ref (b 37), .int 0, .int 0, .int 0, .ref (b 38), .int 0, .int 0, .ref (b 39), .ref (b 40), .ref (b 41), .ref (b 42), .int 0])), (b 6, .inl (cy 0, 400, .inl (u.2.1 0)))])) (va_A ([(b 0, .inr (12, [.int 0, .int 0, .ref (b 1), .ref (b 2), .ref (b 3), .ref (b 4), .int 0, .ref (b 5), .ref (b 6), .int 16, .int 0, .int 0, .int (-1), .int 0, .ref (b 7), .ref (b 20), .int 0, .ref (b 21), .ref (b 22), .int 0, .int 0, .ref (b 23), .int 0, .int 0, .int 0, .int 0, .ref (b 24), .ref (b 25), .ref (b 26), .int 0, .ref (b 27), .int 0, .ref (b 28), .ref (b 29), .ref (b 30), .ref (b 31), .ref (b 32), .ref (b 33), .ref (b 34), .int 0, .int 0, .int 0, .int 0, .int 0, .int 0, .ref (b 35), .ref (b 36), .ref (b 37), .int 0, .int 0, .int 0, .ref (b 38), .int 0, .int 0, .ref (b 39), .ref (b 40), .ref (b 41), .ref (b 42), .int 0])), (b 6, .inl (cy 0, 400, .inl f))]) sz)) 0 0 (va_A ([(b 0, .inr (12, [.int 0, .int 0, .ref (b 1), .ref (b 2), .ref (b 3), .ref (b 4), .int 0, .ref (b 5), .ref (b 6), .int 16, .int 0, .int 0, .int (-1), .int 0, .ref (b 7), .ref (b 20), .int 0, .ref (b 21), .ref (b 22), .int 0, .int 0, .ref (b 23), .int 0, .int 0, .int 0, .int 0, .ref (b 24), .ref (b 25), .ref (b 26), .int 0, .ref (b 27), .int 0, .ref (b 28), .ref (b 29), .ref (b 30), .ref (b 31), .ref (b 32), .ref (b 33), .ref (b 34), .int 0, .int 0, .int 0, .int 0, .int 0, .int 0, .ref (b 35), .ref (b 36), .ref (b 37), .int 0, .int 0, .int 0, .ref (b 38), .int 0, .int 0, .ref (b 39), .ref (b 40), .ref (b 41), .ref (b 42), .int 0])), (b 6, .inl (cy 0, 400, .inl f))]) sz) := by
  refine Met.ofW (cc := cX12_four) (maxL := 3) (ret := none) (by decide) rfl ?_
  intro p e s m args below meth c s₁ B hml hv
  obtain ⟨rfl, hsz, hP, hC, hD0⟩ := hv
  have hK := hC.1
  have hx := B.exec
  have hb := B.bytes
  have hr := B.returns
  have hts := atoms_spec (ws := v_X12_four) B.pre
  have hown : s.vm.findClass RX12 = some m.cls := findClass_of_methodNamed B.named
  have hlocks := B.notSynchronized
  subst hsz
  have hD := hD0.self (sz := s.heap.size)
  generalize hAe : va_A ([(b 0, .inr (12, [.int 0, .int 0, .ref (b 1), .ref (b 2), .ref (b 3), .ref (b 4), .int 0, .ref (b 5), .ref (b 6), .int 16, .int 0, .int 0, .int (-1), .int 0, .ref (b 7), .ref (b 20), .int 0, .ref (b 21), .ref (b 22), .int 0, .int 0, .ref (b 23), .int 0, .int 0, .int 0, .int 0, .ref (b 24), .ref (b 25), .ref (b 26), .int 0, .ref (b 27), .int 0, .ref (b 28), .ref (b 29), .ref (b 30), .ref (b 31), .ref (b 32), .ref (b 33), .ref (b 34), .int 0, .int 0, .int 0, .int 0, .int 0, .int 0, .ref (b 35), .ref (b 36), .ref (b 37), .int 0, .int 0, .int 0, .ref (b 38), .int 0, .int 0, .ref (b 39), .ref (b 40), .ref (b 41), .ref (b 42), .int 0])), (b 6, .inl (cy 0, 400, .inl f))]) s.heap.size = A at hD ⊢
  have hA : ∀ q : Nat, s.heap.size ≤ q → A q := fun q h => by rw [← hAe]; exact Or.inr h
  have hS : va_S A s.heap s.heap [] := va_S.rf
  have hl := lv_entry ([.ref (b 0), .int p0]) (n := 3) (Nat.le_of_ble_eq_true rfl)
  rw [lg_entry_eq]
  generalize (lg_sl ([.ref (b 0), .int p0]) ++ List.replicate (3 - (lg_sl ([.ref (b 0), .int p0])).length) Slot.unset).toArray = ls at hl ⊢
  have hl : lv_has ls 3 [(0, .ref (b 0)), (1, .int p0)] := hl
  refine lv_bipush (v := 24) hx hb dX12_four_0 (by decide) ?_
  refine lv_istore_n (lv' := [(2, .int 24), (0, .ref (b 0)), (1, .int p0)]) hx hb dX12_four_2 rfl hl (by decide) rfl (fun ls hl => ?_)
  refine lv_iload_n hx hb dX12_four_3 rfl (lv_at hl 0 rfl) ?_
  refine lv_if_lt (tgt := 39) hx hb dX12_four_4 (by decide) (fun c9_ => absurd c9_ (by decide)) (fun _ => ?_)
  refine lv_aload_n hx hb dX12_four_7 rfl (lv_at hl 1 rfl) ?_
  refine va_get (D := (dC, dI)) (ci := 12) (v := .ref (b 6)) (C := RX12) (T := TX12) (N := 59) hx hb hts i_X12_four_X12 hown hK hP 0 rfl rfl 8 (by decide) (hts _ m_X12_four_0) (fun _ h9 => h9) rfl dX12_four_8 ?_
  refine lv_aload_n hx hb dX12_four_11 rfl (lv_at hl 1 rfl) ?_
  refine va_get (D := (dC, dI)) (ci := 12) (v := .int 16) (C := RX12) (T := TX12) (N := 59) hx hb hts i_X12_four_X12 hown hK hP 0 rfl rfl 9 (by decide) (hts _ m_X12_four_1) (fun _ h9 => h9) rfl dX12_four_12 ?_
  refine lv_iload_n hx hb dX12_four_15 rfl (lv_at hl 2 rfl) ?_
  refine lv_iload_n hx hb dX12_four_16 rfl (lv_at hl 0 rfl) ?_
  refine lv_ishr hx hb dX12_four_17 ?_
  refine lv_sipush (v := 255) hx hb dX12_four_18 (by decide) ?_
  refine lv_iand hx hb dX12_four_21 ?_
  refine va_iast hx hb hK hP hD hS 1 0 rfl rfl (show ¬ ((16 : Int32) < 0 ∨ 400 ≤ Int32.toNatClampNeg 16) by decide) dX12_four_22 (fun H locs hP hD hS => ?_)
  refine lv_aload_n hx hb dX12_four_23 rfl (lv_at hl 1 rfl) ?_
  refine lv_dup hx hb dX12_four_24 rfl ?_
  refine va_get (D := (dC, dI)) (ci := 12) (v := .int 16) (C := RX12) (T := TX12) (N := 59) hx hb hts i_X12_four_X12 hown hK hP 0 rfl rfl 9 (by decide) (hts _ m_X12_four_1) (fun _ h9 => h9) rfl dX12_four_25 ?_
  refine lv_iconst (v := 1) hx hb dX12_four_28 (by decide) ?_
  refine lv_iadd hx hb dX12_four_29 ?_
  refine tk_i 17 (by decide) ?_
  refine va_put (D := (dC, dI)) (ci := 12) (v := .int 17) (ty := .int) (C := RX12) (T := TX12) (N := 59) hx hb hts i_X12_four_X12 tyX12 tyX12_ok nmX12 hown hK hP hD hS 0 rfl rfl 9 (by decide) (hts _ m_X12_four_1) (fun _ h9 => h9) rfl (by decide +kernel) rfl rfl (Nat.le_of_ble_eq_true rfl) dX12_four_30 (fun H locs hP hD hS => ?_)
  refine lv_iinc (v := 16) (lv' := [(2, .int 16), (0, .ref (b 0)), (1, .int p0)]) hx hb dX12_four_33 hl (k := 0) rfl (by decide) (by decide) rfl (fun ls hl => ?_)
  refine lv_goto (tgt := 3) hx hb dX12_four_36 (by decide) ?_
  refine lv_iload_n hx hb dX12_four_3 rfl (lv_at hl 0 rfl) ?_
  refine lv_if_lt (tgt := 39) hx hb dX12_four_4 (by decide) (fun c9_ => absurd c9_ (by decide)) (fun _ => ?_)
  refine lv_aload_n hx hb dX12_four_7 rfl (lv_at hl 1 rfl) ?_
  refine va_get (D := (dC, dI)) (ci := 12) (v := .ref (b 6)) (C := RX12) (T := TX12) (N := 59) hx hb hts i_X12_four_X12 hown hK hP 0 rfl rfl 8 (by decide) (hts _ m_X12_four_0) (fun _ h9 => h9) rfl dX12_four_8 ?_
  refine lv_aload_n hx hb dX12_four_11 rfl (lv_at hl 1 rfl) ?_
  refine va_get (D := (dC, dI)) (ci := 12) (v := .int 17) (C := RX12) (T := TX12) (N := 59) hx hb hts i_X12_four_X12 hown hK hP 0 rfl rfl 9 (by decide) (hts _ m_X12_four_1) (fun _ h9 => h9) rfl dX12_four_12 ?_
  refine lv_iload_n hx hb dX12_four_15 rfl (lv_at hl 2 rfl) ?_
  refine lv_iload_n hx hb dX12_four_16 rfl (lv_at hl 0 rfl) ?_
  refine lv_ishr hx hb dX12_four_17 ?_
  refine lv_sipush (v := 255) hx hb dX12_four_18 (by decide) ?_
  refine lv_iand hx hb dX12_four_21 ?_
  refine va_iast hx hb hK hP hD hS 1 0 rfl rfl (show ¬ ((17 : Int32) < 0 ∨ 400 ≤ Int32.toNatClampNeg 17) by decide) dX12_four_22 (fun H locs hP hD hS => ?_)
  refine lv_aload_n hx hb dX12_four_23 rfl (lv_at hl 1 rfl) ?_
  refine lv_dup hx hb dX12_four_24 rfl ?_
  refine va_get (D := (dC, dI)) (ci := 12) (v := .int 17) (C := RX12) (T := TX12) (N := 59) hx hb hts i_X12_four_X12 hown hK hP 0 rfl rfl 9 (by decide) (hts _ m_X12_four_1) (fun _ h9 => h9) rfl dX12_four_25 ?_
  refine lv_iconst (v := 1) hx hb dX12_four_28 (by decide) ?_
  refine lv_iadd hx hb dX12_four_29 ?_
  refine tk_i 18 (by decide) ?_
  refine va_put (D := (dC, dI)) (ci := 12) (v := .int 18) (ty := .int) (C := RX12) (T := TX12) (N := 59) hx hb hts i_X12_four_X12 tyX12 tyX12_ok nmX12 hown hK hP hD hS 0 rfl rfl 9 (by decide) (hts _ m_X12_four_1) (fun _ h9 => h9) rfl (by decide +kernel) rfl rfl (Nat.le_of_ble_eq_true rfl) dX12_four_30 (fun H locs hP hD hS => ?_)
  refine lv_iinc (v := 8) (lv' := [(2, .int 8), (0, .ref (b 0)), (1, .int p0)]) hx hb dX12_four_33 hl (k := 0) rfl (by decide) (by decide) rfl (fun ls hl => ?_)
  refine lv_goto (tgt := 3) hx hb dX12_four_36 (by decide) ?_
  refine lv_iload_n hx hb dX12_four_3 rfl (lv_at hl 0 rfl) ?_
  refine lv_if_lt (tgt := 39) hx hb dX12_four_4 (by decide) (fun c9_ => absurd c9_ (by decide)) (fun _ => ?_)
  refine lv_aload_n hx hb dX12_four_7 rfl (lv_at hl 1 rfl) ?_
  refine va_get (D := (dC, dI)) (ci := 12) (v := .ref (b 6)) (C := RX12) (T := TX12) (N := 59) hx hb hts i_X12_four_X12 hown hK hP 0 rfl rfl 8 (by decide) (hts _ m_X12_four_0) (fun _ h9 => h9) rfl dX12_four_8 ?_
  refine lv_aload_n hx hb dX12_four_11 rfl (lv_at hl 1 rfl) ?_
  refine va_get (D := (dC, dI)) (ci := 12) (v := .int 18) (C := RX12) (T := TX12) (N := 59) hx hb hts i_X12_four_X12 hown hK hP 0 rfl rfl 9 (by decide) (hts _ m_X12_four_1) (fun _ h9 => h9) rfl dX12_four_12 ?_
  refine lv_iload_n hx hb dX12_four_15 rfl (lv_at hl 2 rfl) ?_
  refine lv_iload_n hx hb dX12_four_16 rfl (lv_at hl 0 rfl) ?_
  refine lv_ishr hx hb dX12_four_17 ?_
  refine lv_sipush (v := 255) hx hb dX12_four_18 (by decide) ?_
  refine lv_iand hx hb dX12_four_21 ?_
  refine va_iast hx hb hK hP hD hS 1 0 rfl rfl (show ¬ ((18 : Int32) < 0 ∨ 400 ≤ Int32.toNatClampNeg 18) by decide) dX12_four_22 (fun H locs hP hD hS => ?_)
  refine lv_aload_n hx hb dX12_four_23 rfl (lv_at hl 1 rfl) ?_
  refine lv_dup hx hb dX12_four_24 rfl ?_
  refine va_get (D := (dC, dI)) (ci := 12) (v := .int 18) (C := RX12) (T := TX12) (N := 59) hx hb hts i_X12_four_X12 hown hK hP 0 rfl rfl 9 (by decide) (hts _ m_X12_four_1) (fun _ h9 => h9) rfl dX12_four_25 ?_
  refine lv_iconst (v := 1) hx hb dX12_four_28 (by decide) ?_
  refine lv_iadd hx hb dX12_four_29 ?_
  refine tk_i 19 (by decide) ?_
  refine va_put (D := (dC, dI)) (ci := 12) (v := .int 19) (ty := .int) (C := RX12) (T := TX12) (N := 59) hx hb hts i_X12_four_X12 tyX12 tyX12_ok nmX12 hown hK hP hD hS 0 rfl rfl 9 (by decide) (hts _ m_X12_four_1) (fun _ h9 => h9) rfl (by decide +kernel) rfl rfl (Nat.le_of_ble_eq_true rfl) dX12_four_30 (fun H locs hP hD hS => ?_)
  refine lv_iinc (v := 0) (lv' := [(2, .int 0), (0, .ref (b 0)), (1, .int p0)]) hx hb dX12_four_33 hl (k := 0) rfl (by decide) (by decide) rfl (fun ls hl => ?_)
  refine lv_goto (tgt := 3) hx hb dX12_four_36 (by decide) ?_
  refine lv_iload_n hx hb dX12_four_3 rfl (lv_at hl 0 rfl) ?_
  refine lv_if_lt (tgt := 39) hx hb dX12_four_4 (by decide) (fun c9_ => absurd c9_ (by decide)) (fun _ => ?_)
  refine lv_aload_n hx hb dX12_four_7 rfl (lv_at hl 1 rfl) ?_
  refine va_get (D := (dC, dI)) (ci := 12) (v := .ref (b 6)) (C := RX12) (T := TX12) (N := 59) hx hb hts i_X12_four_X12 hown hK hP 0 rfl rfl 8 (by decide) (hts _ m_X12_four_0) (fun _ h9 => h9) rfl dX12_four_8 ?_
  refine lv_aload_n hx hb dX12_four_11 rfl (lv_at hl 1 rfl) ?_
  refine va_get (D := (dC, dI)) (ci := 12) (v := .int 19) (C := RX12) (T := TX12) (N := 59) hx hb hts i_X12_four_X12 hown hK hP 0 rfl rfl 9 (by decide) (hts _ m_X12_four_1) (fun _ h9 => h9) rfl dX12_four_12 ?_
  refine lv_iload_n hx hb dX12_four_15 rfl (lv_at hl 2 rfl) ?_
  refine lv_iload_n hx hb dX12_four_16 rfl (lv_at hl 0 rfl) ?_
  refine lv_ishr hx hb dX12_four_17 ?_
  refine lv_sipush (v := 255) hx hb dX12_four_18 (by decide) ?_
  refine lv_iand hx hb dX12_four_21 ?_
  refine va_iast hx hb hK hP hD hS 1 0 rfl rfl (show ¬ ((19 : Int32) < 0 ∨ 400 ≤ Int32.toNatClampNeg 19) by decide) dX12_four_22 (fun H locs hP hD hS => ?_)
  refine lv_aload_n hx hb dX12_four_23 rfl (lv_at hl 1 rfl) ?_
  refine lv_dup hx hb dX12_four_24 rfl ?_
  refine va_get (D := (dC, dI)) (ci := 12) (v := .int 19) (C := RX12) (T := TX12) (N := 59) hx hb hts i_X12_four_X12 hown hK hP 0 rfl rfl 9 (by decide) (hts _ m_X12_four_1) (fun _ h9 => h9) rfl dX12_four_25 ?_
  refine lv_iconst (v := 1) hx hb dX12_four_28 (by decide) ?_
  refine lv_iadd hx hb dX12_four_29 ?_
  refine tk_i 20 (by decide) ?_
  refine va_put (D := (dC, dI)) (ci := 12) (v := .int 20) (ty := .int) (C := RX12) (T := TX12) (N := 59) hx hb hts i_X12_four_X12 tyX12 tyX12_ok nmX12 hown hK hP hD hS 0 rfl rfl 9 (by decide) (hts _ m_X12_four_1) (fun _ h9 => h9) rfl (by decide +kernel) rfl rfl (Nat.le_of_ble_eq_true rfl) dX12_four_30 (fun H locs hP hD hS => ?_)
  refine lv_iinc (v := (-8)) (lv' := [(2, .int (-8)), (0, .ref (b 0)), (1, .int p0)]) hx hb dX12_four_33 hl (k := 0) rfl (by decide) (by decide) rfl (fun ls hl => ?_)
  refine lv_goto (tgt := 3) hx hb dX12_four_36 (by decide) ?_
  refine lv_iload_n hx hb dX12_four_3 rfl (lv_at hl 0 rfl) ?_
  refine lv_if_lt (tgt := 39) hx hb dX12_four_4 (by decide) (fun _ => ?_) (fun c9_ => absurd (by decide) c9_)
  have hP9 := hP.sub (ws' := [(b 0, .inr (12, [.int 0, .int 0, .ref (b 1), .ref (b 2), .ref (b 3), .ref (b 4), .int 0, .ref (b 5), .ref (b 6), .int 20, .int 0, .int 0, .int (-1), .int 0, .ref (b 7), .ref (b 20), .int 0, .ref (b 21), .ref (b 22), .int 0, .int 0, .ref (b 23), .int 0, .int 0, .int 0, .int 0, .ref (b 24), .ref (b 25), .ref (b 26), .int 0, .ref (b 27), .int 0, .ref (b 28), .ref (b 29), .ref (b 30), .ref (b 31), .ref (b 32), .ref (b 33), .ref (b 34), .int 0, .int 0, .int 0, .int 0, .int 0, .int 0, .ref (b 35), .ref (b 36), .ref (b 37), .int 0, .int 0, .int 0, .ref (b 38), .int 0, .int 0, .ref (b 39), .ref (b 40), .ref (b 41), .ref (b 42), .int 0])), (b 6, .inl (cy 0, 400, .inl (upd (upd (upd (upd f 16 ((p0 >>> (24 &&& 31)) &&& 255)) 17 ((p0 >>> (16 &&& 31)) &&& 255)) 18 ((p0 >>> (8 &&& 31)) &&& 255)) 19 ((p0 >>> (0 &&& 31)) &&& 255))))]) [0, 1] rfl
  have hD9 := hD.sub (ws' := [(b 0, .inr (12, [.int 0, .int 0, .ref (b 1), .ref (b 2), .ref (b 3), .ref (b 4), .int 0, .ref (b 5), .ref (b 6), .int 20, .int 0, .int 0, .int (-1), .int 0, .ref (b 7), .ref (b 20), .int 0, .ref (b 21), .ref (b 22), .int 0, .int 0, .ref (b 23), .int 0, .int 0, .int 0, .int 0, .ref (b 24), .ref (b 25), .ref (b 26), .int 0, .ref (b 27), .int 0, .ref (b 28), .ref (b 29), .ref (b 30), .ref (b 31), .ref (b 32), .ref (b 33), .ref (b 34), .int 0, .int 0, .int 0, .int 0, .int 0, .int 0, .ref (b 35), .ref (b 36), .ref (b 37), .int 0, .int 0, .int 0, .ref (b 38), .int 0, .int 0, .ref (b 39), .ref (b 40), .ref (b 41), .ref (b 42), .int 0])), (b 6, .inl (cy 0, 400, .inl (upd (upd (upd (upd f 16 ((p0 >>> (24 &&& 31)) &&& 255)) 17 ((p0 >>> (16 &&& 31)) &&& 255)) 18 ((p0 >>> (8 &&& 31)) &&& 255)) 19 ((p0 >>> (0 &&& 31)) &&& 255))))]) [0, 1] (by decide) rfl
  exact W.vret hx hb hr (fun t ht hW => ⟨⟨((fun k => [].getD k 0, fun k => [(upd (upd (upd (upd f 16 ((p0 >>> (24 &&& 31)) &&& 255)) 17 ((p0 >>> (16 &&& 31)) &&& 255)) 18 ((p0 >>> (8 &&& 31)) &&& 255)) 19 ((p0 >>> (0 &&& 31)) &&& 255))].getD k (fun _ => 0), fun k => [].getD k (fun _ => none)) : uS), rfl, trivial, (by rw [ht]; exact hP9), hD9⟩, hS.F ht⟩) hS.2.2 dX12_four_39

theorem dX12_feed_0 : decode cX12_feed 0 = .ok (.aload_n 0, 1) := by decide +kernel
theorem dX12_feed_1 : decode cX12_feed 1 = .ok (.iconst 0, 1) := by decide +kernel
theorem dX12_feed_2 : decode cX12_feed 2 = .ok (.putfield 105, 3) := by decide +kernel
theorem dX12_feed_5 : decode cX12_feed 5 = .ok (.aload_n 0, 1) := by decide +kernel
theorem dX12_feed_6 : decode cX12_feed 6 = .ok (.getfield 153, 3) := by decide +kernel
theorem dX12_feed_9 : decode cX12_feed 9 = .ok (.bipush 20, 2) := by decide +kernel
theorem dX12_feed_11 : decode cX12_feed 11 = .ok (.iadd, 1) := by decide +kernel
theorem dX12_feed_12 : decode cX12_feed 12 = .ok (.sipush 400, 3) := by decide +kernel
theorem dX12_feed_15 : decode cX12_feed 15 = .ok (.if_icmp .le 5, 3) := by decide +kernel
theorem dX12_feed_20 : decode cX12_feed 20 = .ok (.aload_n 0, 1) := by decide +kernel
theorem dX12_feed_21 : decode cX12_feed 21 = .ok (.iload_n 1, 1) := by decide +kernel
theorem dX12_feed_22 : decode cX12_feed 22 = .ok (.invokevirtual 156, 3) := by decide +kernel
theorem dX12_feed_25 : decode cX12_feed 25 = .ok (.aload_n 0, 1) := by decide +kernel
theorem dX12_feed_26 : decode cX12_feed 26 = .ok (.iload_n 2, 1) := by decide +kernel
theorem dX12_feed_27 : decode cX12_feed 27 = .ok (.invokevirtual 156, 3) := by decide +kernel
theorem dX12_feed_30 : decode cX12_feed 30 = .ok (.aload_n 0, 1) := by decide +kernel
theorem dX12_feed_31 : decode cX12_feed 31 = .ok (.iload_n 3, 1) := by decide +kernel
theorem dX12_feed_32 : decode cX12_feed 32 = .ok (.invokevirtual 156, 3) := by decide +kernel
theorem dX12_feed_35 : decode cX12_feed 35 = .ok (.aload_n 0, 1) := by decide +kernel
theorem dX12_feed_36 : decode cX12_feed 36 = .ok (.iload 4, 2) := by decide +kernel
theorem dX12_feed_38 : decode cX12_feed 38 = .ok (.invokevirtual 156, 3) := by decide +kernel
theorem dX12_feed_41 : decode cX12_feed 41 = .ok (.aload_n 0, 1) := by decide +kernel
theorem dX12_feed_42 : decode cX12_feed 42 = .ok (.iload 5, 2) := by decide +kernel
theorem dX12_feed_44 : decode cX12_feed 44 = .ok (.invokevirtual 156, 3) := by decide +kernel
theorem dX12_feed_47 : decode cX12_feed 47 = .ok (.aload_n 0, 1) := by decide +kernel
theorem dX12_feed_48 : decode cX12_feed 48 = .ok (.getfield 153, 3) := by decide +kernel
theorem dX12_feed_51 : decode cX12_feed 51 = .ok (.ireturn, 1) := by decide +kernel
def v_X12_feed : List Cond := .code yX12_feed cX12_feed 6 (some .int) :: ([.fieldLink RX12 105 "RestBoardModel" "thrown" "I", .fieldLink RX12 153 "RestBoardModel" "taped" "I", .methodLink RX12 156 yX12_four, .instanceMethod yX12_four, .selects RX12 yX12_four yX12_four, .initialized RX12, .code yX12_four cX12_four 3 none, .fieldLink RX12 25 "RestBoardModel" "tape" "[I"] ++ wsX120)
theorem m_X12_feed_0 : (.fieldLink RX12 105 "RestBoardModel" "thrown" "I" : Cond) ∈ v_X12_feed := List.mem_of_getElem? (i := 1) (by decide +kernel)
theorem m_X12_feed_1 : (.fieldLink RX12 153 "RestBoardModel" "taped" "I" : Cond) ∈ v_X12_feed := List.mem_of_getElem? (i := 2) (by decide +kernel)
theorem i_X12_feed_X12 : ∀ w ∈ u_ws RX12 TX12 59, w ∈ v_X12_feed := fun w h => List.mem_cons_of_mem _ (List.mem_append_right _ h)
set_option maxRecDepth 100000 in
theorem gg_X12_feed_X12_four_156 : GoodIn v_X12_feed v_X12_four := goodIn_r _ [7, 8, 2, 9, 10, 11, 12, 13, 14, 15, 16, 17, 18, 19, 20, 21, 22, 23, 24, 25, 26, 27, 28, 29, 30, 31, 32, 33, 34, 35, 36, 37, 38, 39, 40, 41, 42, 43, 44, 45, 46, 47, 48, 49, 50, 51, 52, 53, 54, 55, 56, 57, 58, 59, 60, 61, 62, 63, 64, 65, 66, 67] (by decide +kernel) (by decide +kernel)
set_option maxRecDepth 100000 in
theorem g_X12_feed_X12_four_156 : GoodIn v_X12_feed (wsV RX12 156 RX12 yX12_four v_X12_four) := goodIn_app (goodIn_r _ [3, 4, 5, 6] (by decide +kernel) (by decide +kernel)) gg_X12_feed_X12_four_156
set_option maxHeartbeats 4000000 in
set_option maxRecDepth 100000 in
theorem c_X12_feed (l : Launch) (dC : Nat → ClassId) (dI : Nat → Nat → Nat) (cy : Nat → ClassId) (b : Nat → Nat) (sz : Nat) (p0 p1 p2 p3 p4 : Int32) : Met l yX12_feed v_X12_feed ({ frames := 1, cells := 0, slots := 0, locals := 22 }) (va_Pc [.ref (b 0), .int p0, .int p1, .int p2, .int p3, .int p4] (ps dC dI cy (mw b cy) sz)) (va_Qi (fun (r : Int32) (_ : Unit) => r = 20) (fun _ _ => True) (va_A (mw b cy) sz)) 0 0 (va_A (mw b cy) sz) := by
  refine Met.ofW (cc := cX12_feed) (maxL := 6) (ret := (some .int)) (by decide) rfl ?_
  intro p e s m args below meth c s₁ B hml hv
  obtain ⟨rfl, hsz, hP, hC, hD0⟩ := hv
  have hK := hC.1
  have hx := B.exec
  have hb := B.bytes
  have hr := B.returns
  have hts := atoms_spec (ws := v_X12_feed) B.pre
  have hown : s.vm.findClass RX12 = some m.cls := findClass_of_methodNamed B.named
  have hlocks := B.notSynchronized
  subst hsz
  have hD := hD0.self (sz := s.heap.size)
  generalize hAe : va_A (mw b cy) s.heap.size = A at hD ⊢
  have hA : ∀ q : Nat, s.heap.size ≤ q → A q := fun q h => by rw [← hAe]; exact Or.inr h
  have hS : va_S A s.heap s.heap [] := va_S.rf
  have hl := lv_entry ([.ref (b 0), .int p0, .int p1, .int p2, .int p3, .int p4]) (n := 6) (Nat.le_of_ble_eq_true rfl)
  rw [lg_entry_eq]
  generalize (lg_sl ([.ref (b 0), .int p0, .int p1, .int p2, .int p3, .int p4]) ++ List.replicate (6 - (lg_sl ([.ref (b 0), .int p0, .int p1, .int p2, .int p3, .int p4])).length) Slot.unset).toArray = ls at hl ⊢
  have hl : lv_has ls 6 [(0, .ref (b 0)), (1, .int p0), (2, .int p1), (3, .int p2), (4, .int p3), (5, .int p4)] := hl
  refine lv_aload_n hx hb dX12_feed_0 rfl (lv_at hl 0 rfl) ?_
  refine lv_iconst (v := 0) hx hb dX12_feed_1 (by decide) ?_
  refine va_put (D := (dC, dI)) (ci := 12) (v := .int 0) (ty := .int) (C := RX12) (T := TX12) (N := 59) hx hb hts i_X12_feed_X12 tyX12 tyX12_ok nmX12 hown hK hP hD hS 0 rfl rfl 0 (by decide) (hts _ m_X12_feed_0) (fun _ h9 => h9) rfl (by decide +kernel) rfl rfl (Nat.le_of_ble_eq_true rfl) dX12_feed_2 (fun H locs hP hD hS => ?_)
  have hP : va_P (dC, dI) vwCl (mw b cy) H := hP
  have hD : va_D A (mw b cy) := hD
  have hP := hP.sub (ws' := [(b 0, .inr (12, [.int 0, .int 0, .ref (b 1), .ref (b 2), .ref (b 3), .ref (b 4), .int 0, .ref (b 5), .ref (b 6), .int 0, .int 0, .int 0, .int (-1), .int 0, .ref (b 7), .ref (b 20), .int 0, .ref (b 21), .ref (b 22), .int 0, .int 0, .ref (b 23), .int 0, .int 0, .int 0, .int 0, .ref (b 24), .ref (b 25), .ref (b 26), .int 0, .ref (b 27), .int 0, .ref (b 28), .ref (b 29), .ref (b 30), .ref (b 31), .ref (b 32), .ref (b 33), .ref (b 34), .int 0, .int 0, .int 0, .int 0, .int 0, .int 0, .ref (b 35), .ref (b 36), .ref (b 37), .int 0, .int 0, .int 0, .ref (b 38), .int 0, .int 0, .ref (b 39), .ref (b 40), .ref (b 41), .ref (b 42), .int 0])), (b 6, .inl (cy 0, 400, .inl (fun _ => 0)))]) [0, 6] rfl
  have hD := hD.sub (ws' := [(b 0, .inr (12, [.int 0, .int 0, .ref (b 1), .ref (b 2), .ref (b 3), .ref (b 4), .int 0, .ref (b 5), .ref (b 6), .int 0, .int 0, .int 0, .int (-1), .int 0, .ref (b 7), .ref (b 20), .int 0, .ref (b 21), .ref (b 22), .int 0, .int 0, .ref (b 23), .int 0, .int 0, .int 0, .int 0, .ref (b 24), .ref (b 25), .ref (b 26), .int 0, .ref (b 27), .int 0, .ref (b 28), .ref (b 29), .ref (b 30), .ref (b 31), .ref (b 32), .ref (b 33), .ref (b 34), .int 0, .int 0, .int 0, .int 0, .int 0, .int 0, .ref (b 35), .ref (b 36), .ref (b 37), .int 0, .int 0, .int 0, .ref (b 38), .int 0, .int 0, .ref (b 39), .ref (b 40), .ref (b 41), .ref (b 42), .int 0])), (b 6, .inl (cy 0, 400, .inl (fun _ => 0)))]) [0, 6] (by decide) rfl
  refine lv_aload_n hx hb dX12_feed_5 rfl (lv_at hl 0 rfl) ?_
  refine va_get (D := (dC, dI)) (ci := 12) (v := .int 0) (C := RX12) (T := TX12) (N := 59) hx hb hts i_X12_feed_X12 hown hK hP 0 rfl rfl 9 (by decide) (hts _ m_X12_feed_1) (fun _ h9 => h9) rfl dX12_feed_6 ?_
  refine lv_bipush (v := 20) hx hb dX12_feed_9 (by decide) ?_
  refine lv_iadd hx hb dX12_feed_11 ?_
  refine tk_i 20 (by decide) ?_
  refine lv_sipush (v := 400) hx hb dX12_feed_12 (by decide) ?_
  refine lv_icmp_le (tgt := 20) hx hb dX12_feed_15 (by decide) (fun _ => ?_) (fun c9_ => absurd (by decide) c9_)
  refine lv_aload_n hx hb dX12_feed_20 rfl (lv_at hl 0 rfl) ?_
  refine lv_iload_n hx hb dX12_feed_21 rfl (lv_at hl 1 rfl) ?_
  have hPc : va_P (dC, dI) vwCl ([(b 0, .inr (12, [.int 0, .int 0, .ref (b 1), .ref (b 2), .ref (b 3), .ref (b 4), .int 0, .ref (b 5), .ref (b 6), .int 0, .int 0, .int 0, .int (-1), .int 0, .ref (b 7), .ref (b 20), .int 0, .ref (b 21), .ref (b 22), .int 0, .int 0, .ref (b 23), .int 0, .int 0, .int 0, .int 0, .ref (b 24), .ref (b 25), .ref (b 26), .int 0, .ref (b 27), .int 0, .ref (b 28), .ref (b 29), .ref (b 30), .ref (b 31), .ref (b 32), .ref (b 33), .ref (b 34), .int 0, .int 0, .int 0, .int 0, .int 0, .int 0, .ref (b 35), .ref (b 36), .ref (b 37), .int 0, .int 0, .int 0, .ref (b 38), .int 0, .int 0, .ref (b 39), .ref (b 40), .ref (b 41), .ref (b 42), .int 0])), (b 6, .inl (cy 0, 400, .inl (fun _ => 0)))]) _ := hP.sub [0, 1] rfl
  have hDc := hD.sub (ws' := [(b 0, .inr (12, [.int 0, .int 0, .ref (b 1), .ref (b 2), .ref (b 3), .ref (b 4), .int 0, .ref (b 5), .ref (b 6), .int 0, .int 0, .int 0, .int (-1), .int 0, .ref (b 7), .ref (b 20), .int 0, .ref (b 21), .ref (b 22), .int 0, .int 0, .ref (b 23), .int 0, .int 0, .int 0, .int 0, .ref (b 24), .ref (b 25), .ref (b 26), .int 0, .ref (b 27), .int 0, .ref (b 28), .ref (b 29), .ref (b 30), .ref (b 31), .ref (b 32), .ref (b 33), .ref (b 34), .int 0, .int 0, .int 0, .int 0, .int 0, .int 0, .ref (b 35), .ref (b 36), .ref (b 37), .int 0, .int 0, .int 0, .ref (b 38), .int 0, .int 0, .ref (b 39), .ref (b 40), .ref (b 41), .ref (b 42), .int 0])), (b 6, .inl (cy 0, 400, .inl (fun _ => 0)))]) [0, 1] (by decide) rfl
  have hFc := va_free (wc := [(b 0, .inr (12, [.int 0, .int 0, .ref (b 1), .ref (b 2), .ref (b 3), .ref (b 4), .int 0, .ref (b 5), .ref (b 6), .int 0, .int 0, .int 0, .int (-1), .int 0, .ref (b 7), .ref (b 20), .int 0, .ref (b 21), .ref (b 22), .int 0, .int 0, .ref (b 23), .int 0, .int 0, .int 0, .int 0, .ref (b 24), .ref (b 25), .ref (b 26), .int 0, .ref (b 27), .int 0, .ref (b 28), .ref (b 29), .ref (b 30), .ref (b 31), .ref (b 32), .ref (b 33), .ref (b 34), .int 0, .int 0, .int 0, .int 0, .int 0, .int 0, .ref (b 35), .ref (b 36), .ref (b 37), .int 0, .int 0, .int 0, .ref (b 38), .int 0, .int 0, .ref (b 39), .ref (b 40), .ref (b 41), .ref (b 42), .int 0])), (b 6, .inl (cy 0, 400, .inl (fun _ => 0)))]) hD hS hA [0, 1] rfl
  refine va_callv (va_runV (As := [.int p0]) (rest := []) ⟨hx, hb, hml, hown, hts⟩ (c_X12_four_0 l dC dI cy b ((fun _ => 0)) _ p0) (cwV 1 hts g_X12_feed_X12_four_156 rfl rfl rfl (by decide +kernel) ⟨Nat.le_of_ble_eq_true rfl, Nat.le_of_ble_eq_true rfl⟩) (pv_ps hC hPc hDc (ci := 12) (q0 := 0) rfl rfl) rfl rfl hl.1 rfl (lv_room (Nat.le_of_ble_eq_true rfl)) dX12_feed_22 ⟨Nat.le_of_ble_eq_true rfl, Nat.le_of_ble_eq_true rfl⟩) hS (fun q _ h => hFc q h) hFc (fun u t_ H1 locs ht hvm hw hB hz1 hk1 hS => ?_)
  obtain ⟨u1_, rfl⟩ : ∃ z, z = u := ⟨_, rfl⟩
  obtain ⟨hP1, hD1⟩ := hB
  rw [ht] at hP1
  obtain ⟨hP, hD⟩ := va_join (wr := []) (w1 := [(b 0, .inr (12, [.int 0, .int 0, .ref (b 1), .ref (b 2), .ref (b 3), .ref (b 4), .int 0, .ref (b 5), .ref (b 6), .int 4, .int 0, .int 0, .int (-1), .int 0, .ref (b 7), .ref (b 20), .int 0, .ref (b 21), .ref (b 22), .int 0, .int 0, .ref (b 23), .int 0, .int 0, .int 0, .int 0, .ref (b 24), .ref (b 25), .ref (b 26), .int 0, .ref (b 27), .int 0, .ref (b 28), .ref (b 29), .ref (b 30), .ref (b 31), .ref (b 32), .ref (b 33), .ref (b 34), .int 0, .int 0, .int 0, .int 0, .int 0, .int 0, .ref (b 35), .ref (b 36), .ref (b 37), .int 0, .int 0, .int 0, .ref (b 38), .int 0, .int 0, .ref (b 39), .ref (b 40), .ref (b 41), .ref (b 42), .int 0])), (b 6, .inl (cy 0, 400, .inl (u1_.2.1 0)))]) hP hD [0, 1] [] rfl rfl (by decide) (by decide) hk1 hFc hP1 hD1
  generalize H1 = H at hP hS ⊢
  have hP : va_P (dC, dI) vwCl ([(b 0, .inr (12, [.int 0, .int 0, .ref (b 1), .ref (b 2), .ref (b 3), .ref (b 4), .int 0, .ref (b 5), .ref (b 6), .int 4, .int 0, .int 0, .int (-1), .int 0, .ref (b 7), .ref (b 20), .int 0, .ref (b 21), .ref (b 22), .int 0, .int 0, .ref (b 23), .int 0, .int 0, .int 0, .int 0, .ref (b 24), .ref (b 25), .ref (b 26), .int 0, .ref (b 27), .int 0, .ref (b 28), .ref (b 29), .ref (b 30), .ref (b 31), .ref (b 32), .ref (b 33), .ref (b 34), .int 0, .int 0, .int 0, .int 0, .int 0, .int 0, .ref (b 35), .ref (b 36), .ref (b 37), .int 0, .int 0, .int 0, .ref (b 38), .int 0, .int 0, .ref (b 39), .ref (b 40), .ref (b 41), .ref (b 42), .int 0])), (b 6, .inl (cy 0, 400, .inl (u1_.2.1 0)))]) H := hP
  have hD : va_D A ([(b 0, .inr (12, [.int 0, .int 0, .ref (b 1), .ref (b 2), .ref (b 3), .ref (b 4), .int 0, .ref (b 5), .ref (b 6), .int 4, .int 0, .int 0, .int (-1), .int 0, .ref (b 7), .ref (b 20), .int 0, .ref (b 21), .ref (b 22), .int 0, .int 0, .ref (b 23), .int 0, .int 0, .int 0, .int 0, .ref (b 24), .ref (b 25), .ref (b 26), .int 0, .ref (b 27), .int 0, .ref (b 28), .ref (b 29), .ref (b 30), .ref (b 31), .ref (b 32), .ref (b 33), .ref (b 34), .int 0, .int 0, .int 0, .int 0, .int 0, .int 0, .ref (b 35), .ref (b 36), .ref (b 37), .int 0, .int 0, .int 0, .ref (b 38), .int 0, .int 0, .ref (b 39), .ref (b 40), .ref (b 41), .ref (b 42), .int 0])), (b 6, .inl (cy 0, 400, .inl (u1_.2.1 0)))]) := hD
  refine lv_aload_n hx hb dX12_feed_25 rfl (lv_at hl 0 rfl) ?_
  refine lv_iload_n hx hb dX12_feed_26 rfl (lv_at hl 2 rfl) ?_
  have hPc : va_P (dC, dI) vwCl ([(b 0, .inr (12, [.int 0, .int 0, .ref (b 1), .ref (b 2), .ref (b 3), .ref (b 4), .int 0, .ref (b 5), .ref (b 6), .int 4, .int 0, .int 0, .int (-1), .int 0, .ref (b 7), .ref (b 20), .int 0, .ref (b 21), .ref (b 22), .int 0, .int 0, .ref (b 23), .int 0, .int 0, .int 0, .int 0, .ref (b 24), .ref (b 25), .ref (b 26), .int 0, .ref (b 27), .int 0, .ref (b 28), .ref (b 29), .ref (b 30), .ref (b 31), .ref (b 32), .ref (b 33), .ref (b 34), .int 0, .int 0, .int 0, .int 0, .int 0, .int 0, .ref (b 35), .ref (b 36), .ref (b 37), .int 0, .int 0, .int 0, .ref (b 38), .int 0, .int 0, .ref (b 39), .ref (b 40), .ref (b 41), .ref (b 42), .int 0])), (b 6, .inl (cy 0, 400, .inl (u1_.2.1 0)))]) _ := hP.sub [0, 1] rfl
  have hDc := hD.sub (ws' := [(b 0, .inr (12, [.int 0, .int 0, .ref (b 1), .ref (b 2), .ref (b 3), .ref (b 4), .int 0, .ref (b 5), .ref (b 6), .int 4, .int 0, .int 0, .int (-1), .int 0, .ref (b 7), .ref (b 20), .int 0, .ref (b 21), .ref (b 22), .int 0, .int 0, .ref (b 23), .int 0, .int 0, .int 0, .int 0, .ref (b 24), .ref (b 25), .ref (b 26), .int 0, .ref (b 27), .int 0, .ref (b 28), .ref (b 29), .ref (b 30), .ref (b 31), .ref (b 32), .ref (b 33), .ref (b 34), .int 0, .int 0, .int 0, .int 0, .int 0, .int 0, .ref (b 35), .ref (b 36), .ref (b 37), .int 0, .int 0, .int 0, .ref (b 38), .int 0, .int 0, .ref (b 39), .ref (b 40), .ref (b 41), .ref (b 42), .int 0])), (b 6, .inl (cy 0, 400, .inl (u1_.2.1 0)))]) [0, 1] (by decide) rfl
  have hFc := va_free (wc := [(b 0, .inr (12, [.int 0, .int 0, .ref (b 1), .ref (b 2), .ref (b 3), .ref (b 4), .int 0, .ref (b 5), .ref (b 6), .int 4, .int 0, .int 0, .int (-1), .int 0, .ref (b 7), .ref (b 20), .int 0, .ref (b 21), .ref (b 22), .int 0, .int 0, .ref (b 23), .int 0, .int 0, .int 0, .int 0, .ref (b 24), .ref (b 25), .ref (b 26), .int 0, .ref (b 27), .int 0, .ref (b 28), .ref (b 29), .ref (b 30), .ref (b 31), .ref (b 32), .ref (b 33), .ref (b 34), .int 0, .int 0, .int 0, .int 0, .int 0, .int 0, .ref (b 35), .ref (b 36), .ref (b 37), .int 0, .int 0, .int 0, .ref (b 38), .int 0, .int 0, .ref (b 39), .ref (b 40), .ref (b 41), .ref (b 42), .int 0])), (b 6, .inl (cy 0, 400, .inl (u1_.2.1 0)))]) hD hS hA [0, 1] rfl
  refine va_callv (va_runV (As := [.int p1]) (rest := []) ⟨hx, hb, hml, hown, hts⟩ (c_X12_four_4 l dC dI cy b ((u1_.2.1 0)) _ p1) (cwV 1 hts g_X12_feed_X12_four_156 rfl rfl rfl (by decide +kernel) ⟨Nat.le_of_ble_eq_true rfl, Nat.le_of_ble_eq_true rfl⟩) (pv_ps hC hPc hDc (ci := 12) (q0 := 0) rfl rfl) rfl rfl hl.1 rfl (lv_room (Nat.le_of_ble_eq_true rfl)) dX12_feed_27 ⟨Nat.le_of_ble_eq_true rfl, Nat.le_of_ble_eq_true rfl⟩) hS (fun q _ h => hFc q h) hFc (fun u t_ H1 locs ht hvm hw hB hz1 hk1 hS => ?_)
  obtain ⟨u2_, rfl⟩ : ∃ z, z = u := ⟨_, rfl⟩
  obtain ⟨hP1, hD1⟩ := hB
  rw [ht] at hP1
  obtain ⟨hP, hD⟩ := va_join (wr := []) (w1 := [(b 0, .inr (12, [.int 0, .int 0, .ref (b 1), .ref (b 2), .ref (b 3), .ref (b 4), .int 0, .ref (b 5), .ref (b 6), .int 8, .int 0, .int 0, .int (-1), .int 0, .ref (b 7), .ref (b 20), .int 0, .ref (b 21), .ref (b 22), .int 0, .int 0, .ref (b 23), .int 0, .int 0, .int 0, .int 0, .ref (b 24), .ref (b 25), .ref (b 26), .int 0, .ref (b 27), .int 0, .ref (b 28), .ref (b 29), .ref (b 30), .ref (b 31), .ref (b 32), .ref (b 33), .ref (b 34), .int 0, .int 0, .int 0, .int 0, .int 0, .int 0, .ref (b 35), .ref (b 36), .ref (b 37), .int 0, .int 0, .int 0, .ref (b 38), .int 0, .int 0, .ref (b 39), .ref (b 40), .ref (b 41), .ref (b 42), .int 0])), (b 6, .inl (cy 0, 400, .inl (u2_.2.1 0)))]) hP hD [0, 1] [] rfl rfl (by decide) (by decide) hk1 hFc hP1 hD1
  generalize H1 = H at hP hS ⊢
  have hP : va_P (dC, dI) vwCl ([(b 0, .inr (12, [.int 0, .int 0, .ref (b 1), .ref (b 2), .ref (b 3), .ref (b 4), .int 0, .ref (b 5), .ref (b 6), .int 8, .int 0, .int 0, .int (-1), .int 0, .ref (b 7), .ref (b 20), .int 0, .ref (b 21), .ref (b 22), .int 0, .int 0, .ref (b 23), .int 0, .int 0, .int 0, .int 0, .ref (b 24), .ref (b 25), .ref (b 26), .int 0, .ref (b 27), .int 0, .ref (b 28), .ref (b 29), .ref (b 30), .ref (b 31), .ref (b 32), .ref (b 33), .ref (b 34), .int 0, .int 0, .int 0, .int 0, .int 0, .int 0, .ref (b 35), .ref (b 36), .ref (b 37), .int 0, .int 0, .int 0, .ref (b 38), .int 0, .int 0, .ref (b 39), .ref (b 40), .ref (b 41), .ref (b 42), .int 0])), (b 6, .inl (cy 0, 400, .inl (u2_.2.1 0)))]) H := hP
  have hD : va_D A ([(b 0, .inr (12, [.int 0, .int 0, .ref (b 1), .ref (b 2), .ref (b 3), .ref (b 4), .int 0, .ref (b 5), .ref (b 6), .int 8, .int 0, .int 0, .int (-1), .int 0, .ref (b 7), .ref (b 20), .int 0, .ref (b 21), .ref (b 22), .int 0, .int 0, .ref (b 23), .int 0, .int 0, .int 0, .int 0, .ref (b 24), .ref (b 25), .ref (b 26), .int 0, .ref (b 27), .int 0, .ref (b 28), .ref (b 29), .ref (b 30), .ref (b 31), .ref (b 32), .ref (b 33), .ref (b 34), .int 0, .int 0, .int 0, .int 0, .int 0, .int 0, .ref (b 35), .ref (b 36), .ref (b 37), .int 0, .int 0, .int 0, .ref (b 38), .int 0, .int 0, .ref (b 39), .ref (b 40), .ref (b 41), .ref (b 42), .int 0])), (b 6, .inl (cy 0, 400, .inl (u2_.2.1 0)))]) := hD
  refine lv_aload_n hx hb dX12_feed_30 rfl (lv_at hl 0 rfl) ?_
  refine lv_iload_n hx hb dX12_feed_31 rfl (lv_at hl 3 rfl) ?_
  have hPc : va_P (dC, dI) vwCl ([(b 0, .inr (12, [.int 0, .int 0, .ref (b 1), .ref (b 2), .ref (b 3), .ref (b 4), .int 0, .ref (b 5), .ref (b 6), .int 8, .int 0, .int 0, .int (-1), .int 0, .ref (b 7), .ref (b 20), .int 0, .ref (b 21), .ref (b 22), .int 0, .int 0, .ref (b 23), .int 0, .int 0, .int 0, .int 0, .ref (b 24), .ref (b 25), .ref (b 26), .int 0, .ref (b 27), .int 0, .ref (b 28), .ref (b 29), .ref (b 30), .ref (b 31), .ref (b 32), .ref (b 33), .ref (b 34), .int 0, .int 0, .int 0, .int 0, .int 0, .int 0, .ref (b 35), .ref (b 36), .ref (b 37), .int 0, .int 0, .int 0, .ref (b 38), .int 0, .int 0, .ref (b 39), .ref (b 40), .ref (b 41), .ref (b 42), .int 0])), (b 6, .inl (cy 0, 400, .inl (u2_.2.1 0)))]) _ := hP.sub [0, 1] rfl
  have hDc := hD.sub (ws' := [(b 0, .inr (12, [.int 0, .int 0, .ref (b 1), .ref (b 2), .ref (b 3), .ref (b 4), .int 0, .ref (b 5), .ref (b 6), .int 8, .int 0, .int 0, .int (-1), .int 0, .ref (b 7), .ref (b 20), .int 0, .ref (b 21), .ref (b 22), .int 0, .int 0, .ref (b 23), .int 0, .int 0, .int 0, .int 0, .ref (b 24), .ref (b 25), .ref (b 26), .int 0, .ref (b 27), .int 0, .ref (b 28), .ref (b 29), .ref (b 30), .ref (b 31), .ref (b 32), .ref (b 33), .ref (b 34), .int 0, .int 0, .int 0, .int 0, .int 0, .int 0, .ref (b 35), .ref (b 36), .ref (b 37), .int 0, .int 0, .int 0, .ref (b 38), .int 0, .int 0, .ref (b 39), .ref (b 40), .ref (b 41), .ref (b 42), .int 0])), (b 6, .inl (cy 0, 400, .inl (u2_.2.1 0)))]) [0, 1] (by decide) rfl
  have hFc := va_free (wc := [(b 0, .inr (12, [.int 0, .int 0, .ref (b 1), .ref (b 2), .ref (b 3), .ref (b 4), .int 0, .ref (b 5), .ref (b 6), .int 8, .int 0, .int 0, .int (-1), .int 0, .ref (b 7), .ref (b 20), .int 0, .ref (b 21), .ref (b 22), .int 0, .int 0, .ref (b 23), .int 0, .int 0, .int 0, .int 0, .ref (b 24), .ref (b 25), .ref (b 26), .int 0, .ref (b 27), .int 0, .ref (b 28), .ref (b 29), .ref (b 30), .ref (b 31), .ref (b 32), .ref (b 33), .ref (b 34), .int 0, .int 0, .int 0, .int 0, .int 0, .int 0, .ref (b 35), .ref (b 36), .ref (b 37), .int 0, .int 0, .int 0, .ref (b 38), .int 0, .int 0, .ref (b 39), .ref (b 40), .ref (b 41), .ref (b 42), .int 0])), (b 6, .inl (cy 0, 400, .inl (u2_.2.1 0)))]) hD hS hA [0, 1] rfl
  refine va_callv (va_runV (As := [.int p2]) (rest := []) ⟨hx, hb, hml, hown, hts⟩ (c_X12_four_8 l dC dI cy b ((u2_.2.1 0)) _ p2) (cwV 1 hts g_X12_feed_X12_four_156 rfl rfl rfl (by decide +kernel) ⟨Nat.le_of_ble_eq_true rfl, Nat.le_of_ble_eq_true rfl⟩) (pv_ps hC hPc hDc (ci := 12) (q0 := 0) rfl rfl) rfl rfl hl.1 rfl (lv_room (Nat.le_of_ble_eq_true rfl)) dX12_feed_32 ⟨Nat.le_of_ble_eq_true rfl, Nat.le_of_ble_eq_true rfl⟩) hS (fun q _ h => hFc q h) hFc (fun u t_ H1 locs ht hvm hw hB hz1 hk1 hS => ?_)
  obtain ⟨u3_, rfl⟩ : ∃ z, z = u := ⟨_, rfl⟩
  obtain ⟨hP1, hD1⟩ := hB
  rw [ht] at hP1
  obtain ⟨hP, hD⟩ := va_join (wr := []) (w1 := [(b 0, .inr (12, [.int 0, .int 0, .ref (b 1), .ref (b 2), .ref (b 3), .ref (b 4), .int 0, .ref (b 5), .ref (b 6), .int 12, .int 0, .int 0, .int (-1), .int 0, .ref (b 7), .ref (b 20), .int 0, .ref (b 21), .ref (b 22), .int 0, .int 0, .ref (b 23), .int 0, .int 0, .int 0, .int 0, .ref (b 24), .ref (b 25), .ref (b 26), .int 0, .ref (b 27), .int 0, .ref (b 28), .ref (b 29), .ref (b 30), .ref (b 31), .ref (b 32), .ref (b 33), .ref (b 34), .int 0, .int 0, .int 0, .int 0, .int 0, .int 0, .ref (b 35), .ref (b 36), .ref (b 37), .int 0, .int 0, .int 0, .ref (b 38), .int 0, .int 0, .ref (b 39), .ref (b 40), .ref (b 41), .ref (b 42), .int 0])), (b 6, .inl (cy 0, 400, .inl (u3_.2.1 0)))]) hP hD [0, 1] [] rfl rfl (by decide) (by decide) hk1 hFc hP1 hD1
  generalize H1 = H at hP hS ⊢
  have hP : va_P (dC, dI) vwCl ([(b 0, .inr (12, [.int 0, .int 0, .ref (b 1), .ref (b 2), .ref (b 3), .ref (b 4), .int 0, .ref (b 5), .ref (b 6), .int 12, .int 0, .int 0, .int (-1), .int 0, .ref (b 7), .ref (b 20), .int 0, .ref (b 21), .ref (b 22), .int 0, .int 0, .ref (b 23), .int 0, .int 0, .int 0, .int 0, .ref (b 24), .ref (b 25), .ref (b 26), .int 0, .ref (b 27), .int 0, .ref (b 28), .ref (b 29), .ref (b 30), .ref (b 31), .ref (b 32), .ref (b 33), .ref (b 34), .int 0, .int 0, .int 0, .int 0, .int 0, .int 0, .ref (b 35), .ref (b 36), .ref (b 37), .int 0, .int 0, .int 0, .ref (b 38), .int 0, .int 0, .ref (b 39), .ref (b 40), .ref (b 41), .ref (b 42), .int 0])), (b 6, .inl (cy 0, 400, .inl (u3_.2.1 0)))]) H := hP
  have hD : va_D A ([(b 0, .inr (12, [.int 0, .int 0, .ref (b 1), .ref (b 2), .ref (b 3), .ref (b 4), .int 0, .ref (b 5), .ref (b 6), .int 12, .int 0, .int 0, .int (-1), .int 0, .ref (b 7), .ref (b 20), .int 0, .ref (b 21), .ref (b 22), .int 0, .int 0, .ref (b 23), .int 0, .int 0, .int 0, .int 0, .ref (b 24), .ref (b 25), .ref (b 26), .int 0, .ref (b 27), .int 0, .ref (b 28), .ref (b 29), .ref (b 30), .ref (b 31), .ref (b 32), .ref (b 33), .ref (b 34), .int 0, .int 0, .int 0, .int 0, .int 0, .int 0, .ref (b 35), .ref (b 36), .ref (b 37), .int 0, .int 0, .int 0, .ref (b 38), .int 0, .int 0, .ref (b 39), .ref (b 40), .ref (b 41), .ref (b 42), .int 0])), (b 6, .inl (cy 0, 400, .inl (u3_.2.1 0)))]) := hD
  refine lv_aload_n hx hb dX12_feed_35 rfl (lv_at hl 0 rfl) ?_
  refine lv_iload hx hb dX12_feed_36 (lv_at hl 4 rfl) ?_
  have hPc : va_P (dC, dI) vwCl ([(b 0, .inr (12, [.int 0, .int 0, .ref (b 1), .ref (b 2), .ref (b 3), .ref (b 4), .int 0, .ref (b 5), .ref (b 6), .int 12, .int 0, .int 0, .int (-1), .int 0, .ref (b 7), .ref (b 20), .int 0, .ref (b 21), .ref (b 22), .int 0, .int 0, .ref (b 23), .int 0, .int 0, .int 0, .int 0, .ref (b 24), .ref (b 25), .ref (b 26), .int 0, .ref (b 27), .int 0, .ref (b 28), .ref (b 29), .ref (b 30), .ref (b 31), .ref (b 32), .ref (b 33), .ref (b 34), .int 0, .int 0, .int 0, .int 0, .int 0, .int 0, .ref (b 35), .ref (b 36), .ref (b 37), .int 0, .int 0, .int 0, .ref (b 38), .int 0, .int 0, .ref (b 39), .ref (b 40), .ref (b 41), .ref (b 42), .int 0])), (b 6, .inl (cy 0, 400, .inl (u3_.2.1 0)))]) _ := hP.sub [0, 1] rfl
  have hDc := hD.sub (ws' := [(b 0, .inr (12, [.int 0, .int 0, .ref (b 1), .ref (b 2), .ref (b 3), .ref (b 4), .int 0, .ref (b 5), .ref (b 6), .int 12, .int 0, .int 0, .int (-1), .int 0, .ref (b 7), .ref (b 20), .int 0, .ref (b 21), .ref (b 22), .int 0, .int 0, .ref (b 23), .int 0, .int 0, .int 0, .int 0, .ref (b 24), .ref (b 25), .ref (b 26), .int 0, .ref (b 27), .int 0, .ref (b 28), .ref (b 29), .ref (b 30), .ref (b 31), .ref (b 32), .ref (b 33), .ref (b 34), .int 0, .int 0, .int 0, .int 0, .int 0, .int 0, .ref (b 35), .ref (b 36), .ref (b 37), .int 0, .int 0, .int 0, .ref (b 38), .int 0, .int 0, .ref (b 39), .ref (b 40), .ref (b 41), .ref (b 42), .int 0])), (b 6, .inl (cy 0, 400, .inl (u3_.2.1 0)))]) [0, 1] (by decide) rfl
  have hFc := va_free (wc := [(b 0, .inr (12, [.int 0, .int 0, .ref (b 1), .ref (b 2), .ref (b 3), .ref (b 4), .int 0, .ref (b 5), .ref (b 6), .int 12, .int 0, .int 0, .int (-1), .int 0, .ref (b 7), .ref (b 20), .int 0, .ref (b 21), .ref (b 22), .int 0, .int 0, .ref (b 23), .int 0, .int 0, .int 0, .int 0, .ref (b 24), .ref (b 25), .ref (b 26), .int 0, .ref (b 27), .int 0, .ref (b 28), .ref (b 29), .ref (b 30), .ref (b 31), .ref (b 32), .ref (b 33), .ref (b 34), .int 0, .int 0, .int 0, .int 0, .int 0, .int 0, .ref (b 35), .ref (b 36), .ref (b 37), .int 0, .int 0, .int 0, .ref (b 38), .int 0, .int 0, .ref (b 39), .ref (b 40), .ref (b 41), .ref (b 42), .int 0])), (b 6, .inl (cy 0, 400, .inl (u3_.2.1 0)))]) hD hS hA [0, 1] rfl
  refine va_callv (va_runV (As := [.int p3]) (rest := []) ⟨hx, hb, hml, hown, hts⟩ (c_X12_four_12 l dC dI cy b ((u3_.2.1 0)) _ p3) (cwV 1 hts g_X12_feed_X12_four_156 rfl rfl rfl (by decide +kernel) ⟨Nat.le_of_ble_eq_true rfl, Nat.le_of_ble_eq_true rfl⟩) (pv_ps hC hPc hDc (ci := 12) (q0 := 0) rfl rfl) rfl rfl hl.1 rfl (lv_room (Nat.le_of_ble_eq_true rfl)) dX12_feed_38 ⟨Nat.le_of_ble_eq_true rfl, Nat.le_of_ble_eq_true rfl⟩) hS (fun q _ h => hFc q h) hFc (fun u t_ H1 locs ht hvm hw hB hz1 hk1 hS => ?_)
  obtain ⟨u4_, rfl⟩ : ∃ z, z = u := ⟨_, rfl⟩
  obtain ⟨hP1, hD1⟩ := hB
  rw [ht] at hP1
  obtain ⟨hP, hD⟩ := va_join (wr := []) (w1 := [(b 0, .inr (12, [.int 0, .int 0, .ref (b 1), .ref (b 2), .ref (b 3), .ref (b 4), .int 0, .ref (b 5), .ref (b 6), .int 16, .int 0, .int 0, .int (-1), .int 0, .ref (b 7), .ref (b 20), .int 0, .ref (b 21), .ref (b 22), .int 0, .int 0, .ref (b 23), .int 0, .int 0, .int 0, .int 0, .ref (b 24), .ref (b 25), .ref (b 26), .int 0, .ref (b 27), .int 0, .ref (b 28), .ref (b 29), .ref (b 30), .ref (b 31), .ref (b 32), .ref (b 33), .ref (b 34), .int 0, .int 0, .int 0, .int 0, .int 0, .int 0, .ref (b 35), .ref (b 36), .ref (b 37), .int 0, .int 0, .int 0, .ref (b 38), .int 0, .int 0, .ref (b 39), .ref (b 40), .ref (b 41), .ref (b 42), .int 0])), (b 6, .inl (cy 0, 400, .inl (u4_.2.1 0)))]) hP hD [0, 1] [] rfl rfl (by decide) (by decide) hk1 hFc hP1 hD1
  generalize H1 = H at hP hS ⊢
  have hP : va_P (dC, dI) vwCl ([(b 0, .inr (12, [.int 0, .int 0, .ref (b 1), .ref (b 2), .ref (b 3), .ref (b 4), .int 0, .ref (b 5), .ref (b 6), .int 16, .int 0, .int 0, .int (-1), .int 0, .ref (b 7), .ref (b 20), .int 0, .ref (b 21), .ref (b 22), .int 0, .int 0, .ref (b 23), .int 0, .int 0, .int 0, .int 0, .ref (b 24), .ref (b 25), .ref (b 26), .int 0, .ref (b 27), .int 0, .ref (b 28), .ref (b 29), .ref (b 30), .ref (b 31), .ref (b 32), .ref (b 33), .ref (b 34), .int 0, .int 0, .int 0, .int 0, .int 0, .int 0, .ref (b 35), .ref (b 36), .ref (b 37), .int 0, .int 0, .int 0, .ref (b 38), .int 0, .int 0, .ref (b 39), .ref (b 40), .ref (b 41), .ref (b 42), .int 0])), (b 6, .inl (cy 0, 400, .inl (u4_.2.1 0)))]) H := hP
  have hD : va_D A ([(b 0, .inr (12, [.int 0, .int 0, .ref (b 1), .ref (b 2), .ref (b 3), .ref (b 4), .int 0, .ref (b 5), .ref (b 6), .int 16, .int 0, .int 0, .int (-1), .int 0, .ref (b 7), .ref (b 20), .int 0, .ref (b 21), .ref (b 22), .int 0, .int 0, .ref (b 23), .int 0, .int 0, .int 0, .int 0, .ref (b 24), .ref (b 25), .ref (b 26), .int 0, .ref (b 27), .int 0, .ref (b 28), .ref (b 29), .ref (b 30), .ref (b 31), .ref (b 32), .ref (b 33), .ref (b 34), .int 0, .int 0, .int 0, .int 0, .int 0, .int 0, .ref (b 35), .ref (b 36), .ref (b 37), .int 0, .int 0, .int 0, .ref (b 38), .int 0, .int 0, .ref (b 39), .ref (b 40), .ref (b 41), .ref (b 42), .int 0])), (b 6, .inl (cy 0, 400, .inl (u4_.2.1 0)))]) := hD
  refine lv_aload_n hx hb dX12_feed_41 rfl (lv_at hl 0 rfl) ?_
  refine lv_iload hx hb dX12_feed_42 (lv_at hl 5 rfl) ?_
  have hPc : va_P (dC, dI) vwCl ([(b 0, .inr (12, [.int 0, .int 0, .ref (b 1), .ref (b 2), .ref (b 3), .ref (b 4), .int 0, .ref (b 5), .ref (b 6), .int 16, .int 0, .int 0, .int (-1), .int 0, .ref (b 7), .ref (b 20), .int 0, .ref (b 21), .ref (b 22), .int 0, .int 0, .ref (b 23), .int 0, .int 0, .int 0, .int 0, .ref (b 24), .ref (b 25), .ref (b 26), .int 0, .ref (b 27), .int 0, .ref (b 28), .ref (b 29), .ref (b 30), .ref (b 31), .ref (b 32), .ref (b 33), .ref (b 34), .int 0, .int 0, .int 0, .int 0, .int 0, .int 0, .ref (b 35), .ref (b 36), .ref (b 37), .int 0, .int 0, .int 0, .ref (b 38), .int 0, .int 0, .ref (b 39), .ref (b 40), .ref (b 41), .ref (b 42), .int 0])), (b 6, .inl (cy 0, 400, .inl (u4_.2.1 0)))]) _ := hP.sub [0, 1] rfl
  have hDc := hD.sub (ws' := [(b 0, .inr (12, [.int 0, .int 0, .ref (b 1), .ref (b 2), .ref (b 3), .ref (b 4), .int 0, .ref (b 5), .ref (b 6), .int 16, .int 0, .int 0, .int (-1), .int 0, .ref (b 7), .ref (b 20), .int 0, .ref (b 21), .ref (b 22), .int 0, .int 0, .ref (b 23), .int 0, .int 0, .int 0, .int 0, .ref (b 24), .ref (b 25), .ref (b 26), .int 0, .ref (b 27), .int 0, .ref (b 28), .ref (b 29), .ref (b 30), .ref (b 31), .ref (b 32), .ref (b 33), .ref (b 34), .int 0, .int 0, .int 0, .int 0, .int 0, .int 0, .ref (b 35), .ref (b 36), .ref (b 37), .int 0, .int 0, .int 0, .ref (b 38), .int 0, .int 0, .ref (b 39), .ref (b 40), .ref (b 41), .ref (b 42), .int 0])), (b 6, .inl (cy 0, 400, .inl (u4_.2.1 0)))]) [0, 1] (by decide) rfl
  have hFc := va_free (wc := [(b 0, .inr (12, [.int 0, .int 0, .ref (b 1), .ref (b 2), .ref (b 3), .ref (b 4), .int 0, .ref (b 5), .ref (b 6), .int 16, .int 0, .int 0, .int (-1), .int 0, .ref (b 7), .ref (b 20), .int 0, .ref (b 21), .ref (b 22), .int 0, .int 0, .ref (b 23), .int 0, .int 0, .int 0, .int 0, .ref (b 24), .ref (b 25), .ref (b 26), .int 0, .ref (b 27), .int 0, .ref (b 28), .ref (b 29), .ref (b 30), .ref (b 31), .ref (b 32), .ref (b 33), .ref (b 34), .int 0, .int 0, .int 0, .int 0, .int 0, .int 0, .ref (b 35), .ref (b 36), .ref (b 37), .int 0, .int 0, .int 0, .ref (b 38), .int 0, .int 0, .ref (b 39), .ref (b 40), .ref (b 41), .ref (b 42), .int 0])), (b 6, .inl (cy 0, 400, .inl (u4_.2.1 0)))]) hD hS hA [0, 1] rfl
  refine va_callv (va_runV (As := [.int p4]) (rest := []) ⟨hx, hb, hml, hown, hts⟩ (c_X12_four_16 l dC dI cy b ((u4_.2.1 0)) _ p4) (cwV 1 hts g_X12_feed_X12_four_156 rfl rfl rfl (by decide +kernel) ⟨Nat.le_of_ble_eq_true rfl, Nat.le_of_ble_eq_true rfl⟩) (pv_ps hC hPc hDc (ci := 12) (q0 := 0) rfl rfl) rfl rfl hl.1 rfl (lv_room (Nat.le_of_ble_eq_true rfl)) dX12_feed_44 ⟨Nat.le_of_ble_eq_true rfl, Nat.le_of_ble_eq_true rfl⟩) hS (fun q _ h => hFc q h) hFc (fun u t_ H1 locs ht hvm hw hB hz1 hk1 hS => ?_)
  obtain ⟨u5_, rfl⟩ : ∃ z, z = u := ⟨_, rfl⟩
  obtain ⟨hP1, hD1⟩ := hB
  rw [ht] at hP1
  obtain ⟨hP, hD⟩ := va_join (wr := []) (w1 := [(b 0, .inr (12, [.int 0, .int 0, .ref (b 1), .ref (b 2), .ref (b 3), .ref (b 4), .int 0, .ref (b 5), .ref (b 6), .int 20, .int 0, .int 0, .int (-1), .int 0, .ref (b 7), .ref (b 20), .int 0, .ref (b 21), .ref (b 22), .int 0, .int 0, .ref (b 23), .int 0, .int 0, .int 0, .int 0, .ref (b 24), .ref (b 25), .ref (b 26), .int 0, .ref (b 27), .int 0, .ref (b 28), .ref (b 29), .ref (b 30), .ref (b 31), .ref (b 32), .ref (b 33), .ref (b 34), .int 0, .int 0, .int 0, .int 0, .int 0, .int 0, .ref (b 35), .ref (b 36), .ref (b 37), .int 0, .int 0, .int 0, .ref (b 38), .int 0, .int 0, .ref (b 39), .ref (b 40), .ref (b 41), .ref (b 42), .int 0])), (b 6, .inl (cy 0, 400, .inl (u5_.2.1 0)))]) hP hD [0, 1] [] rfl rfl (by decide) (by decide) hk1 hFc hP1 hD1
  generalize H1 = H at hP hS ⊢
  have hP : va_P (dC, dI) vwCl ([(b 0, .inr (12, [.int 0, .int 0, .ref (b 1), .ref (b 2), .ref (b 3), .ref (b 4), .int 0, .ref (b 5), .ref (b 6), .int 20, .int 0, .int 0, .int (-1), .int 0, .ref (b 7), .ref (b 20), .int 0, .ref (b 21), .ref (b 22), .int 0, .int 0, .ref (b 23), .int 0, .int 0, .int 0, .int 0, .ref (b 24), .ref (b 25), .ref (b 26), .int 0, .ref (b 27), .int 0, .ref (b 28), .ref (b 29), .ref (b 30), .ref (b 31), .ref (b 32), .ref (b 33), .ref (b 34), .int 0, .int 0, .int 0, .int 0, .int 0, .int 0, .ref (b 35), .ref (b 36), .ref (b 37), .int 0, .int 0, .int 0, .ref (b 38), .int 0, .int 0, .ref (b 39), .ref (b 40), .ref (b 41), .ref (b 42), .int 0])), (b 6, .inl (cy 0, 400, .inl (u5_.2.1 0)))]) H := hP
  have hD : va_D A ([(b 0, .inr (12, [.int 0, .int 0, .ref (b 1), .ref (b 2), .ref (b 3), .ref (b 4), .int 0, .ref (b 5), .ref (b 6), .int 20, .int 0, .int 0, .int (-1), .int 0, .ref (b 7), .ref (b 20), .int 0, .ref (b 21), .ref (b 22), .int 0, .int 0, .ref (b 23), .int 0, .int 0, .int 0, .int 0, .ref (b 24), .ref (b 25), .ref (b 26), .int 0, .ref (b 27), .int 0, .ref (b 28), .ref (b 29), .ref (b 30), .ref (b 31), .ref (b 32), .ref (b 33), .ref (b 34), .int 0, .int 0, .int 0, .int 0, .int 0, .int 0, .ref (b 35), .ref (b 36), .ref (b 37), .int 0, .int 0, .int 0, .ref (b 38), .int 0, .int 0, .ref (b 39), .ref (b 40), .ref (b 41), .ref (b 42), .int 0])), (b 6, .inl (cy 0, 400, .inl (u5_.2.1 0)))]) := hD
  refine lv_aload_n hx hb dX12_feed_47 rfl (lv_at hl 0 rfl) ?_
  refine va_get (D := (dC, dI)) (ci := 12) (v := .int 20) (C := RX12) (T := TX12) (N := 59) hx hb hts i_X12_feed_X12 hown hK hP 0 rfl rfl 9 (by decide) (hts _ m_X12_feed_1) (fun _ h9 => h9) rfl dX12_feed_48 ?_
  exact W.iret (v := 20) hx hb hr (fun t ht hW => ⟨⟨20, (), rfl, rfl, trivial⟩, hS.F ht⟩) hS.2.2 dX12_feed_51

theorem dX12_fail_0 : decode cX12_fail 0 = .ok (.aload_n 0, 1) := by decide +kernel
theorem dX12_fail_1 : decode cX12_fail 1 = .ok (.aload_n 0, 1) := by decide +kernel
theorem dX12_fail_2 : decode cX12_fail 2 = .ok (.getfield 160, 3) := by decide +kernel
theorem dX12_fail_5 : decode cX12_fail 5 = .ok (.ifCond .eq 10, 3) := by decide +kernel
theorem dX12_fail_15 : decode cX12_fail 15 = .ok (.iload_n 1, 1) := by decide +kernel
theorem dX12_fail_16 : decode cX12_fail 16 = .ok (.putfield 28, 3) := by decide +kernel
theorem dX12_fail_19 : decode cX12_fail 19 = .ok (.aload_n 0, 1) := by decide +kernel
theorem dX12_fail_20 : decode cX12_fail 20 = .ok (.iconst 1, 1) := by decide +kernel
theorem dX12_fail_21 : decode cX12_fail 21 = .ok (.putfield 160, 3) := by decide +kernel
theorem dX12_fail_24 : decode cX12_fail 24 = .ok (.return_, 1) := by decide +kernel
def v_X12_fail : List Cond := .code yX12_fail cX12_fail 2 none :: ([.fieldLink RX12 160 "RestBoardModel" "bad" "Z", .fieldLink RX12 28 "RestBoardModel" "fault" "I"] ++ wsX120)
theorem m_X12_fail_0 : (.fieldLink RX12 160 "RestBoardModel" "bad" "Z" : Cond) ∈ v_X12_fail := List.mem_of_getElem? (i := 1) (by decide +kernel)
theorem m_X12_fail_1 : (.fieldLink RX12 28 "RestBoardModel" "fault" "I" : Cond) ∈ v_X12_fail := List.mem_of_getElem? (i := 2) (by decide +kernel)
theorem i_X12_fail_X12 : ∀ w ∈ u_ws RX12 TX12 59, w ∈ v_X12_fail := fun w h => List.mem_cons_of_mem _ (List.mem_append_right _ h)
set_option maxHeartbeats 4000000 in
set_option maxRecDepth 100000 in
theorem c_X12_fail (l : Launch) (dC : Nat → ClassId) (dI : Nat → Nat → Nat) (cy : Nat → ClassId) (b : Nat → Nat) (sz : Nat) : Met l yX12_fail v_X12_fail ({ frames := 0, cells := 0, slots := 0, locals := 0 }) (va_Pc [.ref (b 0), .int 0] (ps dC dI cy ([(b 0, .inr (12, [.int 0, .int 0, .ref (b 1), .ref (b 2), .ref (b 3), .ref (b 4), .int 0, .ref (b 5), .ref (b 6), .int 0, .int 0, .int 0, .int (-1), .int 0, .ref (b 7), .ref (b 20), .int 0, .ref (b 21), .ref (b 22), .int 0, .int 0, .ref (b 23), .int 0, .int 0, .int 0, .int 0, .ref (b 24), .ref (b 25), .ref (b 26), .int 0, .ref (b 27), .int 0, .ref (b 28), .ref (b 29), .ref (b 30), .ref (b 31), .ref (b 32), .ref (b 33), .ref (b 34), .int 0, .int 0, .int 0, .int 0, .int 0, .int 0, .ref (b 35), .ref (b 36), .ref (b 37), .int 0, .int 0, .int 0, .ref (b 38), .int 0, .int 0, .ref (b 39), .ref (b 40), .ref (b 41), .ref (b 42), .int 0]))]) sz)) (va_Qv (fun (_ : uS) => True) (fun (_ : uS) (t : State) => va_P (dC, dI) vwCl ([(b 0, .inr (12, [.int 0, .int 0, .ref (b 1), .ref (b 2), .ref (b 3), .ref (b 4), .int 0, .ref (b 5), .ref (b 6), .int 0, .int 0, .int 0, .int 0, .int 1, .ref (b 7), .ref (b 20), .int 0, .ref (b 21), .ref (b 22), .int 0, .int 0, .ref (b 23), .int 0, .int 0, .int 0, .int 0, .ref (b 24), .ref (b 25), .ref (b 26), .int 0, .ref (b 27), .int 0, .ref (b 28), .ref (b 29), .ref (b 30), .ref (b 31), .ref (b 32), .ref (b 33), .ref (b 34), .int 0, .int 0, .int 0, .int 0, .int 0, .int 0, .ref (b 35), .ref (b 36), .ref (b 37), .int 0, .int 0, .int 0, .ref (b 38), .int 0, .int 0, .ref (b 39), .ref (b 40), .ref (b 41), .ref (b 42), .int 0]))]) t.heap ∧ va_D (va_A ([(b 0, .inr (12, [.int 0, .int 0, .ref (b 1), .ref (b 2), .ref (b 3), .ref (b 4), .int 0, .ref (b 5), .ref (b 6), .int 0, .int 0, .int 0, .int (-1), .int 0, .ref (b 7), .ref (b 20), .int 0, .ref (b 21), .ref (b 22), .int 0, .int 0, .ref (b 23), .int 0, .int 0, .int 0, .int 0, .ref (b 24), .ref (b 25), .ref (b 26), .int 0, .ref (b 27), .int 0, .ref (b 28), .ref (b 29), .ref (b 30), .ref (b 31), .ref (b 32), .ref (b 33), .ref (b 34), .int 0, .int 0, .int 0, .int 0, .int 0, .int 0, .ref (b 35), .ref (b 36), .ref (b 37), .int 0, .int 0, .int 0, .ref (b 38), .int 0, .int 0, .ref (b 39), .ref (b 40), .ref (b 41), .ref (b 42), .int 0]))]) sz) ([(b 0, .inr (12, [.int 0, .int 0, .ref (b 1), .ref (b 2), .ref (b 3), .ref (b 4), .int 0, .ref (b 5), .ref (b 6), .int 0, .int 0, .int 0, .int 0, .int 1, .ref (b 7), .ref (b 20), .int 0, .ref (b 21), .ref (b 22), .int 0, .int 0, .ref (b 23), .int 0, .int 0, .int 0, .int 0, .ref (b 24), .ref (b 25), .ref (b 26), .int 0, .ref (b 27), .int 0, .ref (b 28), .ref (b 29), .ref (b 30), .ref (b 31), .ref (b 32), .ref (b 33), .ref (b 34), .int 0, .int 0, .int 0, .int 0, .int 0, .int 0, .ref (b 35), .ref (b 36), .ref (b 37), .int 0, .int 0, .int 0, .ref (b 38), .int 0, .int 0, .ref (b 39), .ref (b 40), .ref (b 41), .ref (b 42), .int 0]))])) (va_A ([(b 0, .inr (12, [.int 0, .int 0, .ref (b 1), .ref (b 2), .ref (b 3), .ref (b 4), .int 0, .ref (b 5), .ref (b 6), .int 0, .int 0, .int 0, .int (-1), .int 0, .ref (b 7), .ref (b 20), .int 0, .ref (b 21), .ref (b 22), .int 0, .int 0, .ref (b 23), .int 0, .int 0, .int 0, .int 0, .ref (b 24), .ref (b 25), .ref (b 26), .int 0, .ref (b 27), .int 0, .ref (b 28), .ref (b 29), .ref (b 30), .ref (b 31), .ref (b 32), .ref (b 33), .ref (b 34), .int 0, .int 0, .int 0, .int 0, .int 0, .int 0, .ref (b 35), .ref (b 36), .ref (b 37), .int 0, .int 0, .int 0, .ref (b 38), .int 0, .int 0, .ref (b 39), .ref (b 40), .ref (b 41), .ref (b 42), .int 0]))]) sz)) 0 0 (va_A ([(b 0, .inr (12, [.int 0, .int 0, .ref (b 1), .ref (b 2), .ref (b 3), .ref (b 4), .int 0, .ref (b 5), .ref (b 6), .int 0, .int 0, .int 0, .int (-1), .int 0, .ref (b 7), .ref (b 20), .int 0, .ref (b 21), .ref (b 22), .int 0, .int 0, .ref (b 23), .int 0, .int 0, .int 0, .int 0, .ref (b 24), .ref (b 25), .ref (b 26), .int 0, .ref (b 27), .int 0, .ref (b 28), .ref (b 29), .ref (b 30), .ref (b 31), .ref (b 32), .ref (b 33), .ref (b 34), .int 0, .int 0, .int 0, .int 0, .int 0, .int 0, .ref (b 35), .ref (b 36), .ref (b 37), .int 0, .int 0, .int 0, .ref (b 38), .int 0, .int 0, .ref (b 39), .ref (b 40), .ref (b 41), .ref (b 42), .int 0]))]) sz) := by
  refine Met.ofW (cc := cX12_fail) (maxL := 2) (ret := none) (by decide) rfl ?_
  intro p e s m args below meth c s₁ B hml hv
  obtain ⟨rfl, hsz, hP, hC, hD0⟩ := hv
  have hK := hC.1
  have hx := B.exec
  have hb := B.bytes
  have hr := B.returns
  have hts := atoms_spec (ws := v_X12_fail) B.pre
  have hown : s.vm.findClass RX12 = some m.cls := findClass_of_methodNamed B.named
  have hlocks := B.notSynchronized
  subst hsz
  have hD := hD0.self (sz := s.heap.size)
  generalize hAe : va_A ([(b 0, .inr (12, [.int 0, .int 0, .ref (b 1), .ref (b 2), .ref (b 3), .ref (b 4), .int 0, .ref (b 5), .ref (b 6), .int 0, .int 0, .int 0, .int (-1), .int 0, .ref (b 7), .ref (b 20), .int 0, .ref (b 21), .ref (b 22), .int 0, .int 0, .ref (b 23), .int 0, .int 0, .int 0, .int 0, .ref (b 24), .ref (b 25), .ref (b 26), .int 0, .ref (b 27), .int 0, .ref (b 28), .ref (b 29), .ref (b 30), .ref (b 31), .ref (b 32), .ref (b 33), .ref (b 34), .int 0, .int 0, .int 0, .int 0, .int 0, .int 0, .ref (b 35), .ref (b 36), .ref (b 37), .int 0, .int 0, .int 0, .ref (b 38), .int 0, .int 0, .ref (b 39), .ref (b 40), .ref (b 41), .ref (b 42), .int 0]))]) s.heap.size = A at hD ⊢
  have hA : ∀ q : Nat, s.heap.size ≤ q → A q := fun q h => by rw [← hAe]; exact Or.inr h
  have hS : va_S A s.heap s.heap [] := va_S.rf
  have hl := lv_entry ([.ref (b 0), .int 0]) (n := 2) (Nat.le_of_ble_eq_true rfl)
  rw [lg_entry_eq]
  generalize (lg_sl ([.ref (b 0), .int 0]) ++ List.replicate (2 - (lg_sl ([.ref (b 0), .int 0])).length) Slot.unset).toArray = ls at hl ⊢
  have hl : lv_has ls 2 [(0, .ref (b 0)), (1, .int 0)] := hl
  refine lv_aload_n hx hb dX12_fail_0 rfl (lv_at hl 0 rfl) ?_
  refine lv_aload_n hx hb dX12_fail_1 rfl (lv_at hl 0 rfl) ?_
  refine va_get (D := (dC, dI)) (ci := 12) (v := .int 0) (C := RX12) (T := TX12) (N := 59) hx hb hts i_X12_fail_X12 hown hK hP 0 rfl rfl 13 (by decide) (hts _ m_X12_fail_0) (fun _ h9 => h9) rfl dX12_fail_2 ?_
  refine lv_if_eq (tgt := 15) hx hb dX12_fail_5 (by decide) (fun _ => ?_) (fun c9_ => absurd (by decide) c9_)
  refine lv_iload_n hx hb dX12_fail_15 rfl (lv_at hl 1 rfl) ?_
  refine va_put (D := (dC, dI)) (ci := 12) (v := .int 0) (ty := .int) (C := RX12) (T := TX12) (N := 59) hx hb hts i_X12_fail_X12 tyX12 tyX12_ok nmX12 hown hK hP hD hS 0 rfl rfl 12 (by decide) (hts _ m_X12_fail_1) (fun _ h9 => h9) rfl (by decide +kernel) rfl rfl (Nat.le_of_ble_eq_true rfl) dX12_fail_16 (fun H locs hP hD hS => ?_)
  refine lv_aload_n hx hb dX12_fail_19 rfl (lv_at hl 0 rfl) ?_
  refine lv_iconst (v := 1) hx hb dX12_fail_20 (by decide) ?_
  refine va_put (D := (dC, dI)) (ci := 12) (v := .int 1) (ty := .boolean) (C := RX12) (T := TX12) (N := 59) hx hb hts i_X12_fail_X12 tyX12 tyX12_ok nmX12 hown hK hP hD hS 0 rfl rfl 13 (by decide) (hts _ m_X12_fail_0) (fun _ h9 => h9) rfl (by decide +kernel) rfl rfl (Nat.le_of_ble_eq_true rfl) dX12_fail_21 (fun H locs hP hD hS => ?_)
  have hP9 := hP.sub (ws' := [(b 0, .inr (12, [.int 0, .int 0, .ref (b 1), .ref (b 2), .ref (b 3), .ref (b 4), .int 0, .ref (b 5), .ref (b 6), .int 0, .int 0, .int 0, .int 0, .int 1, .ref (b 7), .ref (b 20), .int 0, .ref (b 21), .ref (b 22), .int 0, .int 0, .ref (b 23), .int 0, .int 0, .int 0, .int 0, .ref (b 24), .ref (b 25), .ref (b 26), .int 0, .ref (b 27), .int 0, .ref (b 28), .ref (b 29), .ref (b 30), .ref (b 31), .ref (b 32), .ref (b 33), .ref (b 34), .int 0, .int 0, .int 0, .int 0, .int 0, .int 0, .ref (b 35), .ref (b 36), .ref (b 37), .int 0, .int 0, .int 0, .ref (b 38), .int 0, .int 0, .ref (b 39), .ref (b 40), .ref (b 41), .ref (b 42), .int 0]))]) [0] rfl
  have hD9 := hD.sub (ws' := [(b 0, .inr (12, [.int 0, .int 0, .ref (b 1), .ref (b 2), .ref (b 3), .ref (b 4), .int 0, .ref (b 5), .ref (b 6), .int 0, .int 0, .int 0, .int 0, .int 1, .ref (b 7), .ref (b 20), .int 0, .ref (b 21), .ref (b 22), .int 0, .int 0, .ref (b 23), .int 0, .int 0, .int 0, .int 0, .ref (b 24), .ref (b 25), .ref (b 26), .int 0, .ref (b 27), .int 0, .ref (b 28), .ref (b 29), .ref (b 30), .ref (b 31), .ref (b 32), .ref (b 33), .ref (b 34), .int 0, .int 0, .int 0, .int 0, .int 0, .int 0, .ref (b 35), .ref (b 36), .ref (b 37), .int 0, .int 0, .int 0, .ref (b 38), .int 0, .int 0, .ref (b 39), .ref (b 40), .ref (b 41), .ref (b 42), .int 0]))]) [0] (by decide) rfl
  exact W.vret hx hb hr (fun t ht hW => ⟨⟨((fun k => [].getD k 0, fun k => [].getD k (fun _ => 0), fun k => [].getD k (fun _ => none)) : uS), rfl, trivial, (by rw [ht]; exact hP9), hD9⟩, hS.F ht⟩) hS.2.2 dX12_fail_24

theorem dX12_next_0 : decode cX12_next 0 = .ok (.aload_n 0, 1) := by decide +kernel
theorem dX12_next_1 : decode cX12_next 1 = .ok (.getfield 160, 3) := by decide +kernel
theorem dX12_next_4 : decode cX12_next 4 = .ok (.ifCond .eq 5, 3) := by decide +kernel
theorem dX12_next_7 : decode cX12_next 7 = .ok (.iload_n 1, 1) := by decide +kernel
theorem dX12_next_8 : decode cX12_next 8 = .ok (.ireturn, 1) := by decide +kernel
theorem dX12_next_9 : decode cX12_next 9 = .ok (.aload_n 0, 1) := by decide +kernel
theorem dX12_next_10 : decode cX12_next 10 = .ok (.getfield 164, 3) := by decide +kernel
theorem dX12_next_13 : decode cX12_next 13 = .ok (.aload_n 0, 1) := by decide +kernel
theorem dX12_next_14 : decode cX12_next 14 = .ok (.getfield 167, 3) := by decide +kernel
theorem dX12_next_17 : decode cX12_next 17 = .ok (.if_icmp .ne 13, 3) := by decide +kernel
theorem dX12_next_20 : decode cX12_next 20 = .ok (.aload_n 0, 1) := by decide +kernel
theorem dX12_next_21 : decode cX12_next 21 = .ok (.aload_n 0, 1) := by decide +kernel
theorem dX12_next_22 : decode cX12_next 22 = .ok (.getfield 167, 3) := by decide +kernel
theorem dX12_next_25 : decode cX12_next 25 = .ok (.invokevirtual 170, 3) := by decide +kernel
theorem dX12_next_28 : decode cX12_next 28 = .ok (.iload_n 1, 1) := by decide +kernel
theorem dX12_next_29 : decode cX12_next 29 = .ok (.ireturn, 1) := by decide +kernel
def v_X12_next : List Cond := .code yX12_next cX12_next 4 (some .int) :: ([.fieldLink RX12 160 "RestBoardModel" "bad" "Z", .fieldLink RX12 164 "RestBoardModel" "spot" "I", .fieldLink RX12 167 "RestBoardModel" "limit" "I", .methodLink RX12 170 yX12_fail, .instanceMethod yX12_fail, .selects RX12 yX12_fail yX12_fail, .initialized RX12, .code yX12_fail cX12_fail 2 none, .fieldLink RX12 28 "RestBoardModel" "fault" "I"] ++ wsX120)
theorem m_X12_next_0 : (.fieldLink RX12 160 "RestBoardModel" "bad" "Z" : Cond) ∈ v_X12_next := List.mem_of_getElem? (i := 1) (by decide +kernel)
theorem m_X12_next_1 : (.fieldLink RX12 164 "RestBoardModel" "spot" "I" : Cond) ∈ v_X12_next := List.mem_of_getElem? (i := 2) (by decide +kernel)
theorem m_X12_next_2 : (.fieldLink RX12 167 "RestBoardModel" "limit" "I" : Cond) ∈ v_X12_next := List.mem_of_getElem? (i := 3) (by decide +kernel)
theorem i_X12_next_X12 : ∀ w ∈ u_ws RX12 TX12 59, w ∈ v_X12_next := fun w h => List.mem_cons_of_mem _ (List.mem_append_right _ h)
set_option maxRecDepth 100000 in
theorem gg_X12_next_X12_fail_170 : GoodIn v_X12_next v_X12_fail := goodIn_r _ [8, 1, 9, 10, 11, 12, 13, 14, 15, 16, 17, 18, 19, 20, 21, 22, 23, 24, 25, 26, 27, 28, 29, 30, 31, 32, 33, 34, 35, 36, 37, 38, 39, 40, 41, 42, 43, 44, 45, 46, 47, 48, 49, 50, 51, 52, 53, 54, 55, 56, 57, 58, 59, 60, 61, 62, 63, 64, 65, 66, 67, 68] (by decide +kernel) (by decide +kernel)
set_option maxRecDepth 100000 in
theorem g_X12_next_X12_fail_170 : GoodIn v_X12_next (wsV RX12 170 RX12 yX12_fail v_X12_fail) := goodIn_app (goodIn_r _ [4, 5, 6, 7] (by decide +kernel) (by decide +kernel)) gg_X12_next_X12_fail_170
set_option maxHeartbeats 4000000 in
set_option maxRecDepth 100000 in
theorem c_X12_next_0 (l : Launch) (dC : Nat → ClassId) (dI : Nat → Nat → Nat) (cy : Nat → ClassId) (b : Nat → Nat) (sz : Nat) : Met l yX12_next v_X12_next ({ frames := 1, cells := 0, slots := 0, locals := 21 }) (va_Pc [.ref (b 0), .int 0, .int 255] (ps dC dI cy ([(b 0, .inr (12, [.int 0, .int 0, .ref (b 1), .ref (b 2), .ref (b 3), .ref (b 4), .int 0, .ref (b 5), .ref (b 6), .int 0, .int 0, .int 0, .int (-1), .int 0, .ref (b 7), .ref (b 20), .int 0, .ref (b 21), .ref (b 22), .int 0, .int 0, .ref (b 23), .int 0, .int 0, .int 0, .int 0, .ref (b 24), .ref (b 25), .ref (b 26), .int 0, .ref (b 27), .int 0, .ref (b 28), .ref (b 29), .ref (b 30), .ref (b 31), .ref (b 32), .ref (b 33), .ref (b 34), .int 0, .int 0, .int 0, .int 0, .int 0, .int 0, .ref (b 35), .ref (b 36), .ref (b 37), .int 0, .int 0, .int 0, .ref (b 38), .int 0, .int 0, .ref (b 39), .ref (b 40), .ref (b 41), .ref (b 42), .int 0]))]) sz)) (va_Qi (fun (r : Int32) (_ : uS) => r = 0) (fun (_ : uS) (t : State) => va_P (dC, dI) vwCl ([(b 0, .inr (12, [.int 0, .int 0, .ref (b 1), .ref (b 2), .ref (b 3), .ref (b 4), .int 0, .ref (b 5), .ref (b 6), .int 0, .int 0, .int 0, .int 0, .int 1, .ref (b 7), .ref (b 20), .int 0, .ref (b 21), .ref (b 22), .int 0, .int 0, .ref (b 23), .int 0, .int 0, .int 0, .int 0, .ref (b 24), .ref (b 25), .ref (b 26), .int 0, .ref (b 27), .int 0, .ref (b 28), .ref (b 29), .ref (b 30), .ref (b 31), .ref (b 32), .ref (b 33), .ref (b 34), .int 0, .int 0, .int 0, .int 0, .int 0, .int 0, .ref (b 35), .ref (b 36), .ref (b 37), .int 0, .int 0, .int 0, .ref (b 38), .int 0, .int 0, .ref (b 39), .ref (b 40), .ref (b 41), .ref (b 42), .int 0]))]) t.heap ∧ va_D (va_A ([(b 0, .inr (12, [.int 0, .int 0, .ref (b 1), .ref (b 2), .ref (b 3), .ref (b 4), .int 0, .ref (b 5), .ref (b 6), .int 0, .int 0, .int 0, .int (-1), .int 0, .ref (b 7), .ref (b 20), .int 0, .ref (b 21), .ref (b 22), .int 0, .int 0, .ref (b 23), .int 0, .int 0, .int 0, .int 0, .ref (b 24), .ref (b 25), .ref (b 26), .int 0, .ref (b 27), .int 0, .ref (b 28), .ref (b 29), .ref (b 30), .ref (b 31), .ref (b 32), .ref (b 33), .ref (b 34), .int 0, .int 0, .int 0, .int 0, .int 0, .int 0, .ref (b 35), .ref (b 36), .ref (b 37), .int 0, .int 0, .int 0, .ref (b 38), .int 0, .int 0, .ref (b 39), .ref (b 40), .ref (b 41), .ref (b 42), .int 0]))]) sz) ([(b 0, .inr (12, [.int 0, .int 0, .ref (b 1), .ref (b 2), .ref (b 3), .ref (b 4), .int 0, .ref (b 5), .ref (b 6), .int 0, .int 0, .int 0, .int 0, .int 1, .ref (b 7), .ref (b 20), .int 0, .ref (b 21), .ref (b 22), .int 0, .int 0, .ref (b 23), .int 0, .int 0, .int 0, .int 0, .ref (b 24), .ref (b 25), .ref (b 26), .int 0, .ref (b 27), .int 0, .ref (b 28), .ref (b 29), .ref (b 30), .ref (b 31), .ref (b 32), .ref (b 33), .ref (b 34), .int 0, .int 0, .int 0, .int 0, .int 0, .int 0, .ref (b 35), .ref (b 36), .ref (b 37), .int 0, .int 0, .int 0, .ref (b 38), .int 0, .int 0, .ref (b 39), .ref (b 40), .ref (b 41), .ref (b 42), .int 0]))])) (va_A ([(b 0, .inr (12, [.int 0, .int 0, .ref (b 1), .ref (b 2), .ref (b 3), .ref (b 4), .int 0, .ref (b 5), .ref (b 6), .int 0, .int 0, .int 0, .int (-1), .int 0, .ref (b 7), .ref (b 20), .int 0, .ref (b 21), .ref (b 22), .int 0, .int 0, .ref (b 23), .int 0, .int 0, .int 0, .int 0, .ref (b 24), .ref (b 25), .ref (b 26), .int 0, .ref (b 27), .int 0, .ref (b 28), .ref (b 29), .ref (b 30), .ref (b 31), .ref (b 32), .ref (b 33), .ref (b 34), .int 0, .int 0, .int 0, .int 0, .int 0, .int 0, .ref (b 35), .ref (b 36), .ref (b 37), .int 0, .int 0, .int 0, .ref (b 38), .int 0, .int 0, .ref (b 39), .ref (b 40), .ref (b 41), .ref (b 42), .int 0]))]) sz)) 0 0 (va_A ([(b 0, .inr (12, [.int 0, .int 0, .ref (b 1), .ref (b 2), .ref (b 3), .ref (b 4), .int 0, .ref (b 5), .ref (b 6), .int 0, .int 0, .int 0, .int (-1), .int 0, .ref (b 7), .ref (b 20), .int 0, .ref (b 21), .ref (b 22), .int 0, .int 0, .ref (b 23), .int 0, .int 0, .int 0, .int 0, .ref (b 24), .ref (b 25), .ref (b 26), .int 0, .ref (b 27), .int 0, .ref (b 28), .ref (b 29), .ref (b 30), .ref (b 31), .ref (b 32), .ref (b 33), .ref (b 34), .int 0, .int 0, .int 0, .int 0, .int 0, .int 0, .ref (b 35), .ref (b 36), .ref (b 37), .int 0, .int 0, .int 0, .ref (b 38), .int 0, .int 0, .ref (b 39), .ref (b 40), .ref (b 41), .ref (b 42), .int 0]))]) sz) := by
  refine Met.ofW (cc := cX12_next) (maxL := 4) (ret := (some .int)) (by decide) rfl ?_
  intro p e s m args below meth c s₁ B hml hv
  obtain ⟨rfl, hsz, hP, hC, hD0⟩ := hv
  have hK := hC.1
  have hx := B.exec
  have hb := B.bytes
  have hr := B.returns
  have hts := atoms_spec (ws := v_X12_next) B.pre
  have hown : s.vm.findClass RX12 = some m.cls := findClass_of_methodNamed B.named
  have hlocks := B.notSynchronized
  subst hsz
  have hD := hD0.self (sz := s.heap.size)
  generalize hAe : va_A ([(b 0, .inr (12, [.int 0, .int 0, .ref (b 1), .ref (b 2), .ref (b 3), .ref (b 4), .int 0, .ref (b 5), .ref (b 6), .int 0, .int 0, .int 0, .int (-1), .int 0, .ref (b 7), .ref (b 20), .int 0, .ref (b 21), .ref (b 22), .int 0, .int 0, .ref (b 23), .int 0, .int 0, .int 0, .int 0, .ref (b 24), .ref (b 25), .ref (b 26), .int 0, .ref (b 27), .int 0, .ref (b 28), .ref (b 29), .ref (b 30), .ref (b 31), .ref (b 32), .ref (b 33), .ref (b 34), .int 0, .int 0, .int 0, .int 0, .int 0, .int 0, .ref (b 35), .ref (b 36), .ref (b 37), .int 0, .int 0, .int 0, .ref (b 38), .int 0, .int 0, .ref (b 39), .ref (b 40), .ref (b 41), .ref (b 42), .int 0]))]) s.heap.size = A at hD ⊢
  have hA : ∀ q : Nat, s.heap.size ≤ q → A q := fun q h => by rw [← hAe]; exact Or.inr h
  have hS : va_S A s.heap s.heap [] := va_S.rf
  have hl := lv_entry ([.ref (b 0), .int 0, .int 255]) (n := 4) (Nat.le_of_ble_eq_true rfl)
  rw [lg_entry_eq]
  generalize (lg_sl ([.ref (b 0), .int 0, .int 255]) ++ List.replicate (4 - (lg_sl ([.ref (b 0), .int 0, .int 255])).length) Slot.unset).toArray = ls at hl ⊢
  have hl : lv_has ls 4 [(0, .ref (b 0)), (1, .int 0), (2, .int 255)] := hl
  refine lv_aload_n hx hb dX12_next_0 rfl (lv_at hl 0 rfl) ?_
  refine va_get (D := (dC, dI)) (ci := 12) (v := .int 0) (C := RX12) (T := TX12) (N := 59) hx hb hts i_X12_next_X12 hown hK hP 0 rfl rfl 13 (by decide) (hts _ m_X12_next_0) (fun _ h9 => h9) rfl dX12_next_1 ?_
  refine lv_if_eq (tgt := 9) hx hb dX12_next_4 (by decide) (fun _ => ?_) (fun c9_ => absurd (by decide) c9_)
  refine lv_aload_n hx hb dX12_next_9 rfl (lv_at hl 0 rfl) ?_
  refine va_get (D := (dC, dI)) (ci := 12) (v := .int 0) (C := RX12) (T := TX12) (N := 59) hx hb hts i_X12_next_X12 hown hK hP 0 rfl rfl 10 (by decide) (hts _ m_X12_next_1) (fun _ h9 => h9) rfl dX12_next_10 ?_
  refine lv_aload_n hx hb dX12_next_13 rfl (lv_at hl 0 rfl) ?_
  refine va_get (D := (dC, dI)) (ci := 12) (v := .int 0) (C := RX12) (T := TX12) (N := 59) hx hb hts i_X12_next_X12 hown hK hP 0 rfl rfl 11 (by decide) (hts _ m_X12_next_2) (fun _ h9 => h9) rfl dX12_next_14 ?_
  refine lv_icmp_ne (tgt := 30) hx hb dX12_next_17 (by decide) (fun c9_ => absurd (by decide) c9_) (fun _ => ?_)
  refine lv_aload_n hx hb dX12_next_20 rfl (lv_at hl 0 rfl) ?_
  refine lv_aload_n hx hb dX12_next_21 rfl (lv_at hl 0 rfl) ?_
  refine va_get (D := (dC, dI)) (ci := 12) (v := .int 0) (C := RX12) (T := TX12) (N := 59) hx hb hts i_X12_next_X12 hown hK hP 0 rfl rfl 11 (by decide) (hts _ m_X12_next_2) (fun _ h9 => h9) rfl dX12_next_22 ?_
  have hPc : va_P (dC, dI) vwCl ([(b 0, .inr (12, [.int 0, .int 0, .ref (b 1), .ref (b 2), .ref (b 3), .ref (b 4), .int 0, .ref (b 5), .ref (b 6), .int 0, .int 0, .int 0, .int (-1), .int 0, .ref (b 7), .ref (b 20), .int 0, .ref (b 21), .ref (b 22), .int 0, .int 0, .ref (b 23), .int 0, .int 0, .int 0, .int 0, .ref (b 24), .ref (b 25), .ref (b 26), .int 0, .ref (b 27), .int 0, .ref (b 28), .ref (b 29), .ref (b 30), .ref (b 31), .ref (b 32), .ref (b 33), .ref (b 34), .int 0, .int 0, .int 0, .int 0, .int 0, .int 0, .ref (b 35), .ref (b 36), .ref (b 37), .int 0, .int 0, .int 0, .ref (b 38), .int 0, .int 0, .ref (b 39), .ref (b 40), .ref (b 41), .ref (b 42), .int 0]))]) _ := hP.sub [0] rfl
  have hDc := hD.sub (ws' := [(b 0, .inr (12, [.int 0, .int 0, .ref (b 1), .ref (b 2), .ref (b 3), .ref (b 4), .int 0, .ref (b 5), .ref (b 6), .int 0, .int 0, .int 0, .int (-1), .int 0, .ref (b 7), .ref (b 20), .int 0, .ref (b 21), .ref (b 22), .int 0, .int 0, .ref (b 23), .int 0, .int 0, .int 0, .int 0, .ref (b 24), .ref (b 25), .ref (b 26), .int 0, .ref (b 27), .int 0, .ref (b 28), .ref (b 29), .ref (b 30), .ref (b 31), .ref (b 32), .ref (b 33), .ref (b 34), .int 0, .int 0, .int 0, .int 0, .int 0, .int 0, .ref (b 35), .ref (b 36), .ref (b 37), .int 0, .int 0, .int 0, .ref (b 38), .int 0, .int 0, .ref (b 39), .ref (b 40), .ref (b 41), .ref (b 42), .int 0]))]) [0] (by decide) rfl
  have hFc := va_free (wc := [(b 0, .inr (12, [.int 0, .int 0, .ref (b 1), .ref (b 2), .ref (b 3), .ref (b 4), .int 0, .ref (b 5), .ref (b 6), .int 0, .int 0, .int 0, .int (-1), .int 0, .ref (b 7), .ref (b 20), .int 0, .ref (b 21), .ref (b 22), .int 0, .int 0, .ref (b 23), .int 0, .int 0, .int 0, .int 0, .ref (b 24), .ref (b 25), .ref (b 26), .int 0, .ref (b 27), .int 0, .ref (b 28), .ref (b 29), .ref (b 30), .ref (b 31), .ref (b 32), .ref (b 33), .ref (b 34), .int 0, .int 0, .int 0, .int 0, .int 0, .int 0, .ref (b 35), .ref (b 36), .ref (b 37), .int 0, .int 0, .int 0, .ref (b 38), .int 0, .int 0, .ref (b 39), .ref (b 40), .ref (b 41), .ref (b 42), .int 0]))]) hD hS hA [0] rfl
  refine va_callv (va_runV (As := [.int 0]) (rest := []) ⟨hx, hb, hml, hown, hts⟩ (c_X12_fail l dC dI cy b _) (cwV 1 hts g_X12_next_X12_fail_170 rfl rfl rfl (by decide +kernel) ⟨Nat.le_of_ble_eq_true rfl, Nat.le_of_ble_eq_true rfl⟩) (pv_ps hC hPc hDc (ci := 12) (q0 := 0) rfl rfl) rfl rfl hl.1 rfl (lv_room (Nat.le_of_ble_eq_true rfl)) dX12_next_25 ⟨Nat.le_of_ble_eq_true rfl, Nat.le_of_ble_eq_true rfl⟩) hS (fun q _ h => hFc q h) hFc (fun u t_ H1 locs ht hvm hw hB hz1 hk1 hS => ?_)
  obtain ⟨u1_, rfl⟩ : ∃ z, z = u := ⟨_, rfl⟩
  obtain ⟨hP1, hD1⟩ := hB
  rw [ht] at hP1
  obtain ⟨hP, hD⟩ := va_join (wr := []) (w1 := [(b 0, .inr (12, [.int 0, .int 0, .ref (b 1), .ref (b 2), .ref (b 3), .ref (b 4), .int 0, .ref (b 5), .ref (b 6), .int 0, .int 0, .int 0, .int 0, .int 1, .ref (b 7), .ref (b 20), .int 0, .ref (b 21), .ref (b 22), .int 0, .int 0, .ref (b 23), .int 0, .int 0, .int 0, .int 0, .ref (b 24), .ref (b 25), .ref (b 26), .int 0, .ref (b 27), .int 0, .ref (b 28), .ref (b 29), .ref (b 30), .ref (b 31), .ref (b 32), .ref (b 33), .ref (b 34), .int 0, .int 0, .int 0, .int 0, .int 0, .int 0, .ref (b 35), .ref (b 36), .ref (b 37), .int 0, .int 0, .int 0, .ref (b 38), .int 0, .int 0, .ref (b 39), .ref (b 40), .ref (b 41), .ref (b 42), .int 0]))]) hP hD [0] [] rfl rfl (by decide) (by decide) hk1 hFc hP1 hD1
  generalize H1 = H at hP hS ⊢
  have hP : va_P (dC, dI) vwCl ([(b 0, .inr (12, [.int 0, .int 0, .ref (b 1), .ref (b 2), .ref (b 3), .ref (b 4), .int 0, .ref (b 5), .ref (b 6), .int 0, .int 0, .int 0, .int 0, .int 1, .ref (b 7), .ref (b 20), .int 0, .ref (b 21), .ref (b 22), .int 0, .int 0, .ref (b 23), .int 0, .int 0, .int 0, .int 0, .ref (b 24), .ref (b 25), .ref (b 26), .int 0, .ref (b 27), .int 0, .ref (b 28), .ref (b 29), .ref (b 30), .ref (b 31), .ref (b 32), .ref (b 33), .ref (b 34), .int 0, .int 0, .int 0, .int 0, .int 0, .int 0, .ref (b 35), .ref (b 36), .ref (b 37), .int 0, .int 0, .int 0, .ref (b 38), .int 0, .int 0, .ref (b 39), .ref (b 40), .ref (b 41), .ref (b 42), .int 0]))]) H := hP
  have hD : va_D A ([(b 0, .inr (12, [.int 0, .int 0, .ref (b 1), .ref (b 2), .ref (b 3), .ref (b 4), .int 0, .ref (b 5), .ref (b 6), .int 0, .int 0, .int 0, .int 0, .int 1, .ref (b 7), .ref (b 20), .int 0, .ref (b 21), .ref (b 22), .int 0, .int 0, .ref (b 23), .int 0, .int 0, .int 0, .int 0, .ref (b 24), .ref (b 25), .ref (b 26), .int 0, .ref (b 27), .int 0, .ref (b 28), .ref (b 29), .ref (b 30), .ref (b 31), .ref (b 32), .ref (b 33), .ref (b 34), .int 0, .int 0, .int 0, .int 0, .int 0, .int 0, .ref (b 35), .ref (b 36), .ref (b 37), .int 0, .int 0, .int 0, .ref (b 38), .int 0, .int 0, .ref (b 39), .ref (b 40), .ref (b 41), .ref (b 42), .int 0]))]) := hD
  refine lv_iload_n hx hb dX12_next_28 rfl (lv_at hl 1 rfl) ?_
  have hP9 := hP.sub (ws' := [(b 0, .inr (12, [.int 0, .int 0, .ref (b 1), .ref (b 2), .ref (b 3), .ref (b 4), .int 0, .ref (b 5), .ref (b 6), .int 0, .int 0, .int 0, .int 0, .int 1, .ref (b 7), .ref (b 20), .int 0, .ref (b 21), .ref (b 22), .int 0, .int 0, .ref (b 23), .int 0, .int 0, .int 0, .int 0, .ref (b 24), .ref (b 25), .ref (b 26), .int 0, .ref (b 27), .int 0, .ref (b 28), .ref (b 29), .ref (b 30), .ref (b 31), .ref (b 32), .ref (b 33), .ref (b 34), .int 0, .int 0, .int 0, .int 0, .int 0, .int 0, .ref (b 35), .ref (b 36), .ref (b 37), .int 0, .int 0, .int 0, .ref (b 38), .int 0, .int 0, .ref (b 39), .ref (b 40), .ref (b 41), .ref (b 42), .int 0]))]) [0] rfl
  have hD9 := hD.sub (ws' := [(b 0, .inr (12, [.int 0, .int 0, .ref (b 1), .ref (b 2), .ref (b 3), .ref (b 4), .int 0, .ref (b 5), .ref (b 6), .int 0, .int 0, .int 0, .int 0, .int 1, .ref (b 7), .ref (b 20), .int 0, .ref (b 21), .ref (b 22), .int 0, .int 0, .ref (b 23), .int 0, .int 0, .int 0, .int 0, .ref (b 24), .ref (b 25), .ref (b 26), .int 0, .ref (b 27), .int 0, .ref (b 28), .ref (b 29), .ref (b 30), .ref (b 31), .ref (b 32), .ref (b 33), .ref (b 34), .int 0, .int 0, .int 0, .int 0, .int 0, .int 0, .ref (b 35), .ref (b 36), .ref (b 37), .int 0, .int 0, .int 0, .ref (b 38), .int 0, .int 0, .ref (b 39), .ref (b 40), .ref (b 41), .ref (b 42), .int 0]))]) [0] (by decide) rfl
  exact W.iret (v := 0) hx hb hr (fun t ht hW => ⟨⟨0, ((fun k => [].getD k 0, fun k => [].getD k (fun _ => 0), fun k => [].getD k (fun _ => none)) : uS), rfl, rfl, (by rw [ht]; exact hP9), hD9⟩, hS.F ht⟩) hS.2.2 dX12_next_29

set_option maxHeartbeats 4000000 in
set_option maxRecDepth 100000 in
theorem c_X12_next_n (l : Launch) (dC : Nat → ClassId) (dI : Nat → Nat → Nat) (cy : Nat → ClassId) (b : Nat → Nat) : Met l yX12_next v_X12_next ({ frames := 0, cells := 0, slots := 0, locals := 0 }) (va_Pc [.ref (b 0), .int 97, .int 122] (pp dC dI cy ([(b 0, .inr (12, [.int 0, .int 0, .ref (b 1), .ref (b 2), .ref (b 3), .ref (b 4), .int 0, .ref (b 5), .ref (b 6), .int 0, .int 0, .int 0, .int 0, .int 1, .ref (b 7), .ref (b 20), .int 0, .ref (b 21), .ref (b 22), .int 0, .int 0, .ref (b 23), .int 0, .int 0, .int 0, .int 0, .ref (b 24), .ref (b 25), .ref (b 26), .int 0, .ref (b 27), .int 0, .ref (b 28), .ref (b 29), .ref (b 30), .ref (b 31), .ref (b 32), .ref (b 33), .ref (b 34), .int 0, .int 0, .int 0, .int 0, .int 0, .int 0, .ref (b 35), .ref (b 36), .ref (b 37), .int 0, .int 0, .int 0, .ref (b 38), .int 0, .int 0, .ref (b 39), .ref (b 40), .ref (b 41), .ref (b 42), .int 0]))]))) (va_Qi (fun (r : Int32) (_ : Unit) => r = 97) (fun _ _ => True) (fun _ => False)) 0 0 (fun _ => False) := by
  refine Met.ofW (cc := cX12_next) (maxL := 4) (ret := (some .int)) (by decide) rfl ?_
  intro p e s m args below meth c s₁ B hml hv
  obtain ⟨rfl, hP, hC⟩ := hv
  have hK := hC.1
  have hx := B.exec
  have hb := B.bytes
  have hr := B.returns
  have hts := atoms_spec (ws := v_X12_next) B.pre
  have hown : s.vm.findClass RX12 = some m.cls := findClass_of_methodNamed B.named
  have hlocks := B.notSynchronized
  have hS : va_S (fun _ => False) s.heap s.heap [] := va_S.rf
  have hl := lv_entry ([.ref (b 0), .int 97, .int 122]) (n := 4) (Nat.le_of_ble_eq_true rfl)
  rw [lg_entry_eq]
  generalize (lg_sl ([.ref (b 0), .int 97, .int 122]) ++ List.replicate (4 - (lg_sl ([.ref (b 0), .int 97, .int 122])).length) Slot.unset).toArray = ls at hl ⊢
  have hl : lv_has ls 4 [(0, .ref (b 0)), (1, .int 97), (2, .int 122)] := hl
  refine lv_aload_n hx hb dX12_next_0 rfl (lv_at hl 0 rfl) ?_
  refine va_get (D := (dC, dI)) (ci := 12) (v := .int 1) (C := RX12) (T := TX12) (N := 59) hx hb hts i_X12_next_X12 hown hK hP 0 rfl rfl 13 (by decide) (hts _ m_X12_next_0) (fun _ h9 => h9) rfl dX12_next_1 ?_
  refine lv_if_eq (tgt := 9) hx hb dX12_next_4 (by decide) (fun c9_ => absurd c9_ (by decide)) (fun _ => ?_)
  refine lv_iload_n hx hb dX12_next_7 rfl (lv_at hl 1 rfl) ?_
  exact W.iret (v := 97) hx hb hr (fun t ht hW => ⟨⟨97, (), rfl, rfl, trivial⟩, hS.F ht⟩) hS.2.2 dX12_next_8

theorem dX12_nextName_0 : decode cX12_nextName 0 = .ok (.aload_n 0, 1) := by decide +kernel
theorem dX12_nextName_1 : decode cX12_nextName 1 = .ok (.bipush 97, 2) := by decide +kernel
theorem dX12_nextName_3 : decode cX12_nextName 3 = .ok (.bipush 122, 2) := by decide +kernel
theorem dX12_nextName_5 : decode cX12_nextName 5 = .ok (.invokevirtual 173, 3) := by decide +kernel
theorem dX12_nextName_8 : decode cX12_nextName 8 = .ok (.ireturn, 1) := by decide +kernel
def v_X12_nextName : List Cond := .code yX12_nextName cX12_nextName 1 (some .int) :: ([.methodLink RX12 173 yX12_next, .instanceMethod yX12_next, .selects RX12 yX12_next yX12_next, .initialized RX12, .code yX12_next cX12_next 4 (some .int), .fieldLink RX12 160 "RestBoardModel" "bad" "Z", .fieldLink RX12 164 "RestBoardModel" "spot" "I", .fieldLink RX12 167 "RestBoardModel" "limit" "I", .methodLink RX12 170 yX12_fail, .instanceMethod yX12_fail, .selects RX12 yX12_fail yX12_fail, .code yX12_fail cX12_fail 2 none, .fieldLink RX12 28 "RestBoardModel" "fault" "I"] ++ wsX120)
set_option maxRecDepth 100000 in
theorem gg_X12_nextName_X12_next_173 : GoodIn v_X12_nextName v_X12_next := goodIn_r _ [5, 6, 7, 8, 9, 10, 11, 4, 12, 13, 14, 15, 16, 17, 18, 19, 20, 21, 22, 23, 24, 25, 26, 27, 28, 29, 30, 31, 32, 33, 34, 35, 36, 37, 38, 39, 40, 41, 42, 43, 44, 45, 46, 47, 48, 49, 50, 51, 52, 53, 54, 55, 56, 57, 58, 59, 60, 61, 62, 63, 64, 65, 66, 67, 68, 69, 70, 71, 72] (by decide +kernel) (by decide +kernel)
set_option maxRecDepth 100000 in
theorem g_X12_nextName_X12_next_173 : GoodIn v_X12_nextName (wsV RX12 173 RX12 yX12_next v_X12_next) := goodIn_app (goodIn_r _ [1, 2, 3, 4] (by decide +kernel) (by decide +kernel)) gg_X12_nextName_X12_next_173
set_option maxHeartbeats 4000000 in
set_option maxRecDepth 100000 in
theorem c_X12_nextName (l : Launch) (dC : Nat → ClassId) (dI : Nat → Nat → Nat) (cy : Nat → ClassId) (b : Nat → Nat) : Met l yX12_nextName v_X12_nextName ({ frames := 1, cells := 0, slots := 0, locals := 23 }) (va_Pc [.ref (b 0)] (pp dC dI cy ([(b 0, .inr (12, [.int 0, .int 0, .ref (b 1), .ref (b 2), .ref (b 3), .ref (b 4), .int 0, .ref (b 5), .ref (b 6), .int 0, .int 0, .int 0, .int 0, .int 1, .ref (b 7), .ref (b 20), .int 0, .ref (b 21), .ref (b 22), .int 0, .int 0, .ref (b 23), .int 0, .int 0, .int 0, .int 0, .ref (b 24), .ref (b 25), .ref (b 26), .int 0, .ref (b 27), .int 0, .ref (b 28), .ref (b 29), .ref (b 30), .ref (b 31), .ref (b 32), .ref (b 33), .ref (b 34), .int 0, .int 0, .int 0, .int 0, .int 0, .int 0, .ref (b 35), .ref (b 36), .ref (b 37), .int 0, .int 0, .int 0, .ref (b 38), .int 0, .int 0, .ref (b 39), .ref (b 40), .ref (b 41), .ref (b 42), .int 0]))]))) (va_Qi (fun (r : Int32) (_ : Unit) => r = 97) (fun _ _ => True) (fun _ => False)) 0 0 (fun _ => False) := by
  refine Met.ofW (cc := cX12_nextName) (maxL := 1) (ret := (some .int)) (by decide) rfl ?_
  intro p e s m args below meth c s₁ B hml hv
  obtain ⟨rfl, hP, hC⟩ := hv
  have hK := hC.1
  have hx := B.exec
  have hb := B.bytes
  have hr := B.returns
  have hts := atoms_spec (ws := v_X12_nextName) B.pre
  have hown : s.vm.findClass RX12 = some m.cls := findClass_of_methodNamed B.named
  have hlocks := B.notSynchronized
  have hS : va_S (fun _ => False) s.heap s.heap [] := va_S.rf
  have hl := lv_entry ([.ref (b 0)]) (n := 1) (Nat.le_of_ble_eq_true rfl)
  rw [lg_entry_eq]
  generalize (lg_sl ([.ref (b 0)]) ++ List.replicate (1 - (lg_sl ([.ref (b 0)])).length) Slot.unset).toArray = ls at hl ⊢
  have hl : lv_has ls 1 [(0, .ref (b 0))] := hl
  refine lv_aload_n hx hb dX12_nextName_0 rfl (lv_at hl 0 rfl) ?_
  refine lv_bipush (v := 97) hx hb dX12_nextName_1 (by decide) ?_
  refine lv_bipush (v := 122) hx hb dX12_nextName_3 (by decide) ?_
  refine tk_pi (va_runV (As := [.int 97, .int 122]) (rest := []) ⟨hx, hb, hml, hown, hts⟩ (c_X12_next_n l dC dI cy b) (cwV 2 hts g_X12_nextName_X12_next_173 rfl rfl rfl (by decide +kernel) ⟨Nat.le_of_ble_eq_true rfl, Nat.le_of_ble_eq_true rfl⟩) (pv_pp hC hP (ci := 12) (q0 := 0) rfl rfl) rfl rfl hl.1 rfl (lv_room (Nat.le_of_ble_eq_true rfl)) dX12_nextName_5 ⟨Nat.le_of_ble_eq_true rfl, Nat.le_of_ble_eq_true rfl⟩) hP hS (fun r_ H locs hw hP hS => ?_)
  subst hw
  exact W.iret (v := 97) hx hb hr (fun t ht hW => ⟨⟨97, (), rfl, rfl, trivial⟩, hS.F ht⟩) hS.2.2 dX12_nextName_8

theorem dX12_readDefinition_0 : decode cX12_readDefinition 0 = .ok (.aload_n 0, 1) := by decide +kernel
theorem dX12_readDefinition_1 : decode cX12_readDefinition 1 = .ok (.iconst 0, 1) := by decide +kernel
theorem dX12_readDefinition_2 : decode cX12_readDefinition 2 = .ok (.sipush 255, 3) := by decide +kernel
theorem dX12_readDefinition_5 : decode cX12_readDefinition 5 = .ok (.invokevirtual 173, 3) := by decide +kernel
theorem dX12_readDefinition_8 : decode cX12_readDefinition 8 = .ok (.istore_n 1, 1) := by decide +kernel
theorem dX12_readDefinition_9 : decode cX12_readDefinition 9 = .ok (.aload_n 0, 1) := by decide +kernel
theorem dX12_readDefinition_10 : decode cX12_readDefinition 10 = .ok (.getfield 160, 3) := by decide +kernel
theorem dX12_readDefinition_13 : decode cX12_readDefinition 13 = .ok (.ifCond .ne 34, 3) := by decide +kernel
theorem dX12_readDefinition_47 : decode cX12_readDefinition 47 = .ok (.aload_n 0, 1) := by decide +kernel
theorem dX12_readDefinition_48 : decode cX12_readDefinition 48 = .ok (.invokevirtual 179, 3) := by decide +kernel
theorem dX12_readDefinition_51 : decode cX12_readDefinition 51 = .ok (.istore_n 2, 1) := by decide +kernel
theorem dX12_readDefinition_52 : decode cX12_readDefinition 52 = .ok (.aload_n 0, 1) := by decide +kernel
theorem dX12_readDefinition_53 : decode cX12_readDefinition 53 = .ok (.getfield 160, 3) := by decide +kernel
theorem dX12_readDefinition_56 : decode cX12_readDefinition 56 = .ok (.ifCond .ne 31, 3) := by decide +kernel
theorem dX12_readDefinition_87 : decode cX12_readDefinition 87 = .ok (.aload_n 0, 1) := by decide +kernel
theorem dX12_readDefinition_88 : decode cX12_readDefinition 88 = .ok (.getfield 160, 3) := by decide +kernel
theorem dX12_readDefinition_91 : decode cX12_readDefinition 91 = .ok (.ifCond .ne 25, 3) := by decide +kernel
theorem dX12_readDefinition_116 : decode cX12_readDefinition 116 = .ok (.return_, 1) := by decide +kernel
def v_X12_readDefinition : List Cond := .code yX12_readDefinition cX12_readDefinition 3 none :: ([.fieldLink RX12 160 "RestBoardModel" "bad" "Z", .methodLink RX12 173 yX12_next, .instanceMethod yX12_next, .selects RX12 yX12_next yX12_next, .initialized RX12, .code yX12_next cX12_next 4 (some .int), .fieldLink RX12 164 "RestBoardModel" "spot" "I", .fieldLink RX12 167 "RestBoardModel" "limit" "I", .methodLink RX12 170 yX12_fail, .instanceMethod yX12_fail, .selects RX12 yX12_fail yX12_fail, .code yX12_fail cX12_fail 2 none, .fieldLink RX12 28 "RestBoardModel" "fault" "I", .methodLink RX12 179 yX12_nextName, .instanceMethod yX12_nextName, .selects RX12 yX12_nextName yX12_nextName, .code yX12_nextName cX12_nextName 1 (some .int)] ++ wsX120)
theorem m_X12_readDefinition_0 : (.fieldLink RX12 160 "RestBoardModel" "bad" "Z" : Cond) ∈ v_X12_readDefinition := List.mem_of_getElem? (i := 1) (by decide +kernel)
theorem i_X12_readDefinition_X12 : ∀ w ∈ u_ws RX12 TX12 59, w ∈ v_X12_readDefinition := fun w h => List.mem_cons_of_mem _ (List.mem_append_right _ h)
set_option maxRecDepth 100000 in
theorem gg_X12_readDefinition_X12_next_173 : GoodIn v_X12_readDefinition v_X12_next := goodIn_r _ [6, 1, 7, 8, 9, 10, 11, 5, 12, 13, 18, 19, 20, 21, 22, 23, 24, 25, 26, 27, 28, 29, 30, 31, 32, 33, 34, 35, 36, 37, 38, 39, 40, 41, 42, 43, 44, 45, 46, 47, 48, 49, 50, 51, 52, 53, 54, 55, 56, 57, 58, 59, 60, 61, 62, 63, 64, 65, 66, 67, 68, 69, 70, 71, 72, 73, 74, 75, 76] (by decide +kernel) (by decide +kernel)
set_option maxRecDepth 100000 in
theorem g_X12_readDefinition_X12_next_173 : GoodIn v_X12_readDefinition (wsV RX12 173 RX12 yX12_next v_X12_next) := goodIn_app (goodIn_r _ [2, 3, 4, 5] (by decide +kernel) (by decide +kernel)) gg_X12_readDefinition_X12_next_173
set_option maxRecDepth 100000 in
theorem gg_X12_readDefinition_X12_nextName_179 : GoodIn v_X12_readDefinition v_X12_nextName := goodIn_r _ [17, 2, 3, 4, 5, 6, 1, 7, 8, 9, 10, 11, 12, 13, 18, 19, 20, 21, 22, 23, 24, 25, 26, 27, 28, 29, 30, 31, 32, 33, 34, 35, 36, 37, 38, 39, 40, 41, 42, 43, 44, 45, 46, 47, 48, 49, 50, 51, 52, 53, 54, 55, 56, 57, 58, 59, 60, 61, 62, 63, 64, 65, 66, 67, 68, 69, 70, 71, 72, 73, 74, 75, 76] (by decide +kernel) (by decide +kernel)
set_option maxRecDepth 100000 in
theorem g_X12_readDefinition_X12_nextName_179 : GoodIn v_X12_readDefinition (wsV RX12 179 RX12 yX12_nextName v_X12_nextName) := goodIn_app (goodIn_r _ [14, 15, 16, 5] (by decide +kernel) (by decide +kernel)) gg_X12_readDefinition_X12_nextName_179
set_option maxHeartbeats 4000000 in
set_option maxRecDepth 100000 in
theorem c_X12_readDefinition (l : Launch) (dC : Nat → ClassId) (dI : Nat → Nat → Nat) (cy : Nat → ClassId) (b : Nat → Nat) (sz : Nat) : Met l yX12_readDefinition v_X12_readDefinition ({ frames := 2, cells := 0, slots := 0, locals := 44 }) (va_Pc [.ref (b 0)] (ps dC dI cy ([(b 0, .inr (12, [.int 0, .int 0, .ref (b 1), .ref (b 2), .ref (b 3), .ref (b 4), .int 0, .ref (b 5), .ref (b 6), .int 0, .int 0, .int 0, .int (-1), .int 0, .ref (b 7), .ref (b 20), .int 0, .ref (b 21), .ref (b 22), .int 0, .int 0, .ref (b 23), .int 0, .int 0, .int 0, .int 0, .ref (b 24), .ref (b 25), .ref (b 26), .int 0, .ref (b 27), .int 0, .ref (b 28), .ref (b 29), .ref (b 30), .ref (b 31), .ref (b 32), .ref (b 33), .ref (b 34), .int 0, .int 0, .int 0, .int 0, .int 0, .int 0, .ref (b 35), .ref (b 36), .ref (b 37), .int 0, .int 0, .int 0, .ref (b 38), .int 0, .int 0, .ref (b 39), .ref (b 40), .ref (b 41), .ref (b 42), .int 0]))]) sz)) (va_Qv (fun (_ : uS) => True) (fun (_ : uS) (t : State) => va_P (dC, dI) vwCl ([(b 0, .inr (12, [.int 0, .int 0, .ref (b 1), .ref (b 2), .ref (b 3), .ref (b 4), .int 0, .ref (b 5), .ref (b 6), .int 0, .int 0, .int 0, .int 0, .int 1, .ref (b 7), .ref (b 20), .int 0, .ref (b 21), .ref (b 22), .int 0, .int 0, .ref (b 23), .int 0, .int 0, .int 0, .int 0, .ref (b 24), .ref (b 25), .ref (b 26), .int 0, .ref (b 27), .int 0, .ref (b 28), .ref (b 29), .ref (b 30), .ref (b 31), .ref (b 32), .ref (b 33), .ref (b 34), .int 0, .int 0, .int 0, .int 0, .int 0, .int 0, .ref (b 35), .ref (b 36), .ref (b 37), .int 0, .int 0, .int 0, .ref (b 38), .int 0, .int 0, .ref (b 39), .ref (b 40), .ref (b 41), .ref (b 42), .int 0]))]) t.heap ∧ va_D (va_A ([(b 0, .inr (12, [.int 0, .int 0, .ref (b 1), .ref (b 2), .ref (b 3), .ref (b 4), .int 0, .ref (b 5), .ref (b 6), .int 0, .int 0, .int 0, .int (-1), .int 0, .ref (b 7), .ref (b 20), .int 0, .ref (b 21), .ref (b 22), .int 0, .int 0, .ref (b 23), .int 0, .int 0, .int 0, .int 0, .ref (b 24), .ref (b 25), .ref (b 26), .int 0, .ref (b 27), .int 0, .ref (b 28), .ref (b 29), .ref (b 30), .ref (b 31), .ref (b 32), .ref (b 33), .ref (b 34), .int 0, .int 0, .int 0, .int 0, .int 0, .int 0, .ref (b 35), .ref (b 36), .ref (b 37), .int 0, .int 0, .int 0, .ref (b 38), .int 0, .int 0, .ref (b 39), .ref (b 40), .ref (b 41), .ref (b 42), .int 0]))]) sz) ([(b 0, .inr (12, [.int 0, .int 0, .ref (b 1), .ref (b 2), .ref (b 3), .ref (b 4), .int 0, .ref (b 5), .ref (b 6), .int 0, .int 0, .int 0, .int 0, .int 1, .ref (b 7), .ref (b 20), .int 0, .ref (b 21), .ref (b 22), .int 0, .int 0, .ref (b 23), .int 0, .int 0, .int 0, .int 0, .ref (b 24), .ref (b 25), .ref (b 26), .int 0, .ref (b 27), .int 0, .ref (b 28), .ref (b 29), .ref (b 30), .ref (b 31), .ref (b 32), .ref (b 33), .ref (b 34), .int 0, .int 0, .int 0, .int 0, .int 0, .int 0, .ref (b 35), .ref (b 36), .ref (b 37), .int 0, .int 0, .int 0, .ref (b 38), .int 0, .int 0, .ref (b 39), .ref (b 40), .ref (b 41), .ref (b 42), .int 0]))])) (va_A ([(b 0, .inr (12, [.int 0, .int 0, .ref (b 1), .ref (b 2), .ref (b 3), .ref (b 4), .int 0, .ref (b 5), .ref (b 6), .int 0, .int 0, .int 0, .int (-1), .int 0, .ref (b 7), .ref (b 20), .int 0, .ref (b 21), .ref (b 22), .int 0, .int 0, .ref (b 23), .int 0, .int 0, .int 0, .int 0, .ref (b 24), .ref (b 25), .ref (b 26), .int 0, .ref (b 27), .int 0, .ref (b 28), .ref (b 29), .ref (b 30), .ref (b 31), .ref (b 32), .ref (b 33), .ref (b 34), .int 0, .int 0, .int 0, .int 0, .int 0, .int 0, .ref (b 35), .ref (b 36), .ref (b 37), .int 0, .int 0, .int 0, .ref (b 38), .int 0, .int 0, .ref (b 39), .ref (b 40), .ref (b 41), .ref (b 42), .int 0]))]) sz)) 0 0 (va_A ([(b 0, .inr (12, [.int 0, .int 0, .ref (b 1), .ref (b 2), .ref (b 3), .ref (b 4), .int 0, .ref (b 5), .ref (b 6), .int 0, .int 0, .int 0, .int (-1), .int 0, .ref (b 7), .ref (b 20), .int 0, .ref (b 21), .ref (b 22), .int 0, .int 0, .ref (b 23), .int 0, .int 0, .int 0, .int 0, .ref (b 24), .ref (b 25), .ref (b 26), .int 0, .ref (b 27), .int 0, .ref (b 28), .ref (b 29), .ref (b 30), .ref (b 31), .ref (b 32), .ref (b 33), .ref (b 34), .int 0, .int 0, .int 0, .int 0, .int 0, .int 0, .ref (b 35), .ref (b 36), .ref (b 37), .int 0, .int 0, .int 0, .ref (b 38), .int 0, .int 0, .ref (b 39), .ref (b 40), .ref (b 41), .ref (b 42), .int 0]))]) sz) := by
  refine Met.ofW (cc := cX12_readDefinition) (maxL := 3) (ret := none) (by decide) rfl ?_
  intro p e s m args below meth c s₁ B hml hv
  obtain ⟨rfl, hsz, hP, hC, hD0⟩ := hv
  have hK := hC.1
  have hx := B.exec
  have hb := B.bytes
  have hr := B.returns
  have hts := atoms_spec (ws := v_X12_readDefinition) B.pre
  have hown : s.vm.findClass RX12 = some m.cls := findClass_of_methodNamed B.named
  have hlocks := B.notSynchronized
  subst hsz
  have hD := hD0.self (sz := s.heap.size)
  generalize hAe : va_A ([(b 0, .inr (12, [.int 0, .int 0, .ref (b 1), .ref (b 2), .ref (b 3), .ref (b 4), .int 0, .ref (b 5), .ref (b 6), .int 0, .int 0, .int 0, .int (-1), .int 0, .ref (b 7), .ref (b 20), .int 0, .ref (b 21), .ref (b 22), .int 0, .int 0, .ref (b 23), .int 0, .int 0, .int 0, .int 0, .ref (b 24), .ref (b 25), .ref (b 26), .int 0, .ref (b 27), .int 0, .ref (b 28), .ref (b 29), .ref (b 30), .ref (b 31), .ref (b 32), .ref (b 33), .ref (b 34), .int 0, .int 0, .int 0, .int 0, .int 0, .int 0, .ref (b 35), .ref (b 36), .ref (b 37), .int 0, .int 0, .int 0, .ref (b 38), .int 0, .int 0, .ref (b 39), .ref (b 40), .ref (b 41), .ref (b 42), .int 0]))]) s.heap.size = A at hD ⊢
  have hA : ∀ q : Nat, s.heap.size ≤ q → A q := fun q h => by rw [← hAe]; exact Or.inr h
  have hS : va_S A s.heap s.heap [] := va_S.rf
  have hl := lv_entry ([.ref (b 0)]) (n := 3) (Nat.le_of_ble_eq_true rfl)
  rw [lg_entry_eq]
  generalize (lg_sl ([.ref (b 0)]) ++ List.replicate (3 - (lg_sl ([.ref (b 0)])).length) Slot.unset).toArray = ls at hl ⊢
  have hl : lv_has ls 3 [(0, .ref (b 0))] := hl
  refine lv_aload_n hx hb dX12_readDefinition_0 rfl (lv_at hl 0 rfl) ?_
  refine lv_iconst (v := 0) hx hb dX12_readDefinition_1 (by decide) ?_
  refine lv_sipush (v := 255) hx hb dX12_readDefinition_2 (by decide) ?_
  have hPc : va_P (dC, dI) vwCl ([(b 0, .inr (12, [.int 0, .int 0, .ref (b 1), .ref (b 2), .ref (b 3), .ref (b 4), .int 0, .ref (b 5), .ref (b 6), .int 0, .int 0, .int 0, .int (-1), .int 0, .ref (b 7), .ref (b 20), .int 0, .ref (b 21), .ref (b 22), .int 0, .int 0, .ref (b 23), .int 0, .int 0, .int 0, .int 0, .ref (b 24), .ref (b 25), .ref (b 26), .int 0, .ref (b 27), .int 0, .ref (b 28), .ref (b 29), .ref (b 30), .ref (b 31), .ref (b 32), .ref (b 33), .ref (b 34), .int 0, .int 0, .int 0, .int 0, .int 0, .int 0, .ref (b 35), .ref (b 36), .ref (b 37), .int 0, .int 0, .int 0, .ref (b 38), .int 0, .int 0, .ref (b 39), .ref (b 40), .ref (b 41), .ref (b 42), .int 0]))]) _ := hP.sub [0] rfl
  have hDc := hD.sub (ws' := [(b 0, .inr (12, [.int 0, .int 0, .ref (b 1), .ref (b 2), .ref (b 3), .ref (b 4), .int 0, .ref (b 5), .ref (b 6), .int 0, .int 0, .int 0, .int (-1), .int 0, .ref (b 7), .ref (b 20), .int 0, .ref (b 21), .ref (b 22), .int 0, .int 0, .ref (b 23), .int 0, .int 0, .int 0, .int 0, .ref (b 24), .ref (b 25), .ref (b 26), .int 0, .ref (b 27), .int 0, .ref (b 28), .ref (b 29), .ref (b 30), .ref (b 31), .ref (b 32), .ref (b 33), .ref (b 34), .int 0, .int 0, .int 0, .int 0, .int 0, .int 0, .ref (b 35), .ref (b 36), .ref (b 37), .int 0, .int 0, .int 0, .ref (b 38), .int 0, .int 0, .ref (b 39), .ref (b 40), .ref (b 41), .ref (b 42), .int 0]))]) [0] (by decide) rfl
  have hFc := va_free (wc := [(b 0, .inr (12, [.int 0, .int 0, .ref (b 1), .ref (b 2), .ref (b 3), .ref (b 4), .int 0, .ref (b 5), .ref (b 6), .int 0, .int 0, .int 0, .int (-1), .int 0, .ref (b 7), .ref (b 20), .int 0, .ref (b 21), .ref (b 22), .int 0, .int 0, .ref (b 23), .int 0, .int 0, .int 0, .int 0, .ref (b 24), .ref (b 25), .ref (b 26), .int 0, .ref (b 27), .int 0, .ref (b 28), .ref (b 29), .ref (b 30), .ref (b 31), .ref (b 32), .ref (b 33), .ref (b 34), .int 0, .int 0, .int 0, .int 0, .int 0, .int 0, .ref (b 35), .ref (b 36), .ref (b 37), .int 0, .int 0, .int 0, .ref (b 38), .int 0, .int 0, .ref (b 39), .ref (b 40), .ref (b 41), .ref (b 42), .int 0]))]) hD hS hA [0] rfl
  refine va_calli (va_runV (As := [.int 0, .int 255]) (rest := []) ⟨hx, hb, hml, hown, hts⟩ (c_X12_next_0 l dC dI cy b _) (cwV 2 hts g_X12_readDefinition_X12_next_173 rfl rfl rfl (by decide +kernel) ⟨Nat.le_of_ble_eq_true rfl, Nat.le_of_ble_eq_true rfl⟩) (pv_ps hC hPc hDc (ci := 12) (q0 := 0) rfl rfl) rfl rfl hl.1 rfl (lv_room (Nat.le_of_ble_eq_true rfl)) dX12_readDefinition_5 ⟨Nat.le_of_ble_eq_true rfl, Nat.le_of_ble_eq_true rfl⟩) hS (fun q _ h => hFc q h) hFc (fun r_ u t_ H1 locs ht hvm hw hB hz1 hk1 hS => ?_)
  obtain ⟨u1_, rfl⟩ : ∃ z, z = u := ⟨_, rfl⟩
  obtain ⟨hP1, hD1⟩ := hB
  rw [ht] at hP1
  obtain ⟨hP, hD⟩ := va_join (wr := []) (w1 := [(b 0, .inr (12, [.int 0, .int 0, .ref (b 1), .ref (b 2), .ref (b 3), .ref (b 4), .int 0, .ref (b 5), .ref (b 6), .int 0, .int 0, .int 0, .int 0, .int 1, .ref (b 7), .ref (b 20), .int 0, .ref (b 21), .ref (b 22), .int 0, .int 0, .ref (b 23), .int 0, .int 0, .int 0, .int 0, .ref (b 24), .ref (b 25), .ref (b 26), .int 0, .ref (b 27), .int 0, .ref (b 28), .ref (b 29), .ref (b 30), .ref (b 31), .ref (b 32), .ref (b 33), .ref (b 34), .int 0, .int 0, .int 0, .int 0, .int 0, .int 0, .ref (b 35), .ref (b 36), .ref (b 37), .int 0, .int 0, .int 0, .ref (b 38), .int 0, .int 0, .ref (b 39), .ref (b 40), .ref (b 41), .ref (b 42), .int 0]))]) hP hD [0] [] rfl rfl (by decide) (by decide) hk1 hFc hP1 hD1
  generalize H1 = H at hP hS ⊢
  have hP : va_P (dC, dI) vwCl ([(b 0, .inr (12, [.int 0, .int 0, .ref (b 1), .ref (b 2), .ref (b 3), .ref (b 4), .int 0, .ref (b 5), .ref (b 6), .int 0, .int 0, .int 0, .int 0, .int 1, .ref (b 7), .ref (b 20), .int 0, .ref (b 21), .ref (b 22), .int 0, .int 0, .ref (b 23), .int 0, .int 0, .int 0, .int 0, .ref (b 24), .ref (b 25), .ref (b 26), .int 0, .ref (b 27), .int 0, .ref (b 28), .ref (b 29), .ref (b 30), .ref (b 31), .ref (b 32), .ref (b 33), .ref (b 34), .int 0, .int 0, .int 0, .int 0, .int 0, .int 0, .ref (b 35), .ref (b 36), .ref (b 37), .int 0, .int 0, .int 0, .ref (b 38), .int 0, .int 0, .ref (b 39), .ref (b 40), .ref (b 41), .ref (b 42), .int 0]))]) H := hP
  have hD : va_D A ([(b 0, .inr (12, [.int 0, .int 0, .ref (b 1), .ref (b 2), .ref (b 3), .ref (b 4), .int 0, .ref (b 5), .ref (b 6), .int 0, .int 0, .int 0, .int 0, .int 1, .ref (b 7), .ref (b 20), .int 0, .ref (b 21), .ref (b 22), .int 0, .int 0, .ref (b 23), .int 0, .int 0, .int 0, .int 0, .ref (b 24), .ref (b 25), .ref (b 26), .int 0, .ref (b 27), .int 0, .ref (b 28), .ref (b 29), .ref (b 30), .ref (b 31), .ref (b 32), .ref (b 33), .ref (b 34), .int 0, .int 0, .int 0, .int 0, .int 0, .int 0, .ref (b 35), .ref (b 36), .ref (b 37), .int 0, .int 0, .int 0, .ref (b 38), .int 0, .int 0, .ref (b 39), .ref (b 40), .ref (b 41), .ref (b 42), .int 0]))]) := hD
  subst hw
  refine lv_istore_n (lv' := [(1, .int 0), (0, .ref (b 0))]) hx hb dX12_readDefinition_8 rfl hl (by decide) rfl (fun ls hl => ?_)
  refine lv_aload_n hx hb dX12_readDefinition_9 rfl (lv_at hl 1 rfl) ?_
  refine va_get (D := (dC, dI)) (ci := 12) (v := .int 1) (C := RX12) (T := TX12) (N := 59) hx hb hts i_X12_readDefinition_X12 hown hK hP 0 rfl rfl 13 (by decide) (hts _ m_X12_readDefinition_0) (fun _ h9 => h9) rfl dX12_readDefinition_10 ?_
  refine lv_if_ne (tgt := 47) hx hb dX12_readDefinition_13 (by decide) (fun _ => ?_) (fun c9_ => absurd c9_ (by decide))
  refine lv_aload_n hx hb dX12_readDefinition_47 rfl (lv_at hl 1 rfl) ?_
  have hPc : va_P (dC, dI) vwCl ([(b 0, .inr (12, [.int 0, .int 0, .ref (b 1), .ref (b 2), .ref (b 3), .ref (b 4), .int 0, .ref (b 5), .ref (b 6), .int 0, .int 0, .int 0, .int 0, .int 1, .ref (b 7), .ref (b 20), .int 0, .ref (b 21), .ref (b 22), .int 0, .int 0, .ref (b 23), .int 0, .int 0, .int 0, .int 0, .ref (b 24), .ref (b 25), .ref (b 26), .int 0, .ref (b 27), .int 0, .ref (b 28), .ref (b 29), .ref (b 30), .ref (b 31), .ref (b 32), .ref (b 33), .ref (b 34), .int 0, .int 0, .int 0, .int 0, .int 0, .int 0, .ref (b 35), .ref (b 36), .ref (b 37), .int 0, .int 0, .int 0, .ref (b 38), .int 0, .int 0, .ref (b 39), .ref (b 40), .ref (b 41), .ref (b 42), .int 0]))]) _ := hP.sub [0] rfl
  refine tk_pi (va_runV (As := []) (rest := []) ⟨hx, hb, hml, hown, hts⟩ (c_X12_nextName l dC dI cy b) (cwV 0 hts g_X12_readDefinition_X12_nextName_179 rfl rfl rfl (by decide +kernel) ⟨Nat.le_of_ble_eq_true rfl, Nat.le_of_ble_eq_true rfl⟩) (pv_pp hC hPc (ci := 12) (q0 := 0) rfl rfl) rfl rfl hl.1 rfl (lv_room (Nat.le_of_ble_eq_true rfl)) dX12_readDefinition_48 ⟨Nat.le_of_ble_eq_true rfl, Nat.le_of_ble_eq_true rfl⟩) hP hS (fun r_ H locs hw hP hS => ?_)
  subst hw
  refine lv_istore_n (lv' := [(2, .int 97), (1, .int 0), (0, .ref (b 0))]) hx hb dX12_readDefinition_51 rfl hl (by decide) rfl (fun ls hl => ?_)
  refine lv_aload_n hx hb dX12_readDefinition_52 rfl (lv_at hl 2 rfl) ?_
  refine va_get (D := (dC, dI)) (ci := 12) (v := .int 1) (C := RX12) (T := TX12) (N := 59) hx hb hts i_X12_readDefinition_X12 hown hK hP 0 rfl rfl 13 (by decide) (hts _ m_X12_readDefinition_0) (fun _ h9 => h9) rfl dX12_readDefinition_53 ?_
  refine lv_if_ne (tgt := 87) hx hb dX12_readDefinition_56 (by decide) (fun _ => ?_) (fun c9_ => absurd c9_ (by decide))
  refine lv_aload_n hx hb dX12_readDefinition_87 rfl (lv_at hl 2 rfl) ?_
  refine va_get (D := (dC, dI)) (ci := 12) (v := .int 1) (C := RX12) (T := TX12) (N := 59) hx hb hts i_X12_readDefinition_X12 hown hK hP 0 rfl rfl 13 (by decide) (hts _ m_X12_readDefinition_0) (fun _ h9 => h9) rfl dX12_readDefinition_88 ?_
  refine lv_if_ne (tgt := 116) hx hb dX12_readDefinition_91 (by decide) (fun _ => ?_) (fun c9_ => absurd c9_ (by decide))
  have hP9 := hP.sub (ws' := [(b 0, .inr (12, [.int 0, .int 0, .ref (b 1), .ref (b 2), .ref (b 3), .ref (b 4), .int 0, .ref (b 5), .ref (b 6), .int 0, .int 0, .int 0, .int 0, .int 1, .ref (b 7), .ref (b 20), .int 0, .ref (b 21), .ref (b 22), .int 0, .int 0, .ref (b 23), .int 0, .int 0, .int 0, .int 0, .ref (b 24), .ref (b 25), .ref (b 26), .int 0, .ref (b 27), .int 0, .ref (b 28), .ref (b 29), .ref (b 30), .ref (b 31), .ref (b 32), .ref (b 33), .ref (b 34), .int 0, .int 0, .int 0, .int 0, .int 0, .int 0, .ref (b 35), .ref (b 36), .ref (b 37), .int 0, .int 0, .int 0, .ref (b 38), .int 0, .int 0, .ref (b 39), .ref (b 40), .ref (b 41), .ref (b 42), .int 0]))]) [0] rfl
  have hD9 := hD.sub (ws' := [(b 0, .inr (12, [.int 0, .int 0, .ref (b 1), .ref (b 2), .ref (b 3), .ref (b 4), .int 0, .ref (b 5), .ref (b 6), .int 0, .int 0, .int 0, .int 0, .int 1, .ref (b 7), .ref (b 20), .int 0, .ref (b 21), .ref (b 22), .int 0, .int 0, .ref (b 23), .int 0, .int 0, .int 0, .int 0, .ref (b 24), .ref (b 25), .ref (b 26), .int 0, .ref (b 27), .int 0, .ref (b 28), .ref (b 29), .ref (b 30), .ref (b 31), .ref (b 32), .ref (b 33), .ref (b 34), .int 0, .int 0, .int 0, .int 0, .int 0, .int 0, .ref (b 35), .ref (b 36), .ref (b 37), .int 0, .int 0, .int 0, .ref (b 38), .int 0, .int 0, .ref (b 39), .ref (b 40), .ref (b 41), .ref (b 42), .int 0]))]) [0] (by decide) rfl
  exact W.vret hx hb hr (fun t ht hW => ⟨⟨((fun k => [].getD k 0, fun k => [].getD k (fun _ => 0), fun k => [].getD k (fun _ => none)) : uS), rfl, trivial, (by rw [ht]; exact hP9), hD9⟩, hS.F ht⟩) hS.2.2 dX12_readDefinition_116

theorem dX12_leaveOver_0 : decode cX12_leaveOver 0 = .ok (.aload_n 0, 1) := by decide +kernel
theorem dX12_leaveOver_1 : decode cX12_leaveOver 1 = .ok (.getfield 160, 3) := by decide +kernel
theorem dX12_leaveOver_4 : decode cX12_leaveOver 4 = .ok (.ifCond .ne 47, 3) := by decide +kernel
theorem dX12_leaveOver_51 : decode cX12_leaveOver 51 = .ok (.return_, 1) := by decide +kernel
def v_X12_leaveOver : List Cond := .code yX12_leaveOver cX12_leaveOver 1 none :: ([.fieldLink RX12 160 "RestBoardModel" "bad" "Z"] ++ wsX120)
theorem m_X12_leaveOver_0 : (.fieldLink RX12 160 "RestBoardModel" "bad" "Z" : Cond) ∈ v_X12_leaveOver := List.mem_of_getElem? (i := 1) (by decide +kernel)
theorem i_X12_leaveOver_X12 : ∀ w ∈ u_ws RX12 TX12 59, w ∈ v_X12_leaveOver := fun w h => List.mem_cons_of_mem _ (List.mem_append_right _ h)
set_option maxHeartbeats 4000000 in
set_option maxRecDepth 100000 in
theorem c_X12_leaveOver (l : Launch) (dC : Nat → ClassId) (dI : Nat → Nat → Nat) (cy : Nat → ClassId) (b : Nat → Nat) : Met l yX12_leaveOver v_X12_leaveOver ({ frames := 0, cells := 0, slots := 0, locals := 0 }) (va_Pc [.ref (b 0)] (pp dC dI cy ([(b 0, .inr (12, [.int 0, .int 0, .ref (b 1), .ref (b 2), .ref (b 3), .ref (b 4), .int 0, .ref (b 5), .ref (b 6), .int 0, .int 0, .int 0, .int 0, .int 1, .ref (b 7), .ref (b 20), .int 0, .ref (b 21), .ref (b 22), .int 0, .int 0, .ref (b 23), .int 0, .int 0, .int 0, .int 0, .ref (b 24), .ref (b 25), .ref (b 26), .int 0, .ref (b 27), .int 0, .ref (b 28), .ref (b 29), .ref (b 30), .ref (b 31), .ref (b 32), .ref (b 33), .ref (b 34), .int 0, .int 0, .int 0, .int 0, .int 0, .int 0, .ref (b 35), .ref (b 36), .ref (b 37), .int 0, .int 0, .int 0, .ref (b 38), .int 0, .int 0, .ref (b 39), .ref (b 40), .ref (b 41), .ref (b 42), .int 0]))]))) (va_Qv (fun (_ : Unit) => True) (fun _ _ => True) (fun _ => False)) 0 0 (fun _ => False) := by
  refine Met.ofW (cc := cX12_leaveOver) (maxL := 1) (ret := none) (by decide) rfl ?_
  intro p e s m args below meth c s₁ B hml hv
  obtain ⟨rfl, hP, hC⟩ := hv
  have hK := hC.1
  have hx := B.exec
  have hb := B.bytes
  have hr := B.returns
  have hts := atoms_spec (ws := v_X12_leaveOver) B.pre
  have hown : s.vm.findClass RX12 = some m.cls := findClass_of_methodNamed B.named
  have hlocks := B.notSynchronized
  have hS : va_S (fun _ => False) s.heap s.heap [] := va_S.rf
  have hl := lv_entry ([.ref (b 0)]) (n := 1) (Nat.le_of_ble_eq_true rfl)
  rw [lg_entry_eq]
  generalize (lg_sl ([.ref (b 0)]) ++ List.replicate (1 - (lg_sl ([.ref (b 0)])).length) Slot.unset).toArray = ls at hl ⊢
  have hl : lv_has ls 1 [(0, .ref (b 0))] := hl
  refine lv_aload_n hx hb dX12_leaveOver_0 rfl (lv_at hl 0 rfl) ?_
  refine va_get (D := (dC, dI)) (ci := 12) (v := .int 1) (C := RX12) (T := TX12) (N := 59) hx hb hts i_X12_leaveOver_X12 hown hK hP 0 rfl rfl 13 (by decide) (hts _ m_X12_leaveOver_0) (fun _ h9 => h9) rfl dX12_leaveOver_1 ?_
  refine lv_if_ne (tgt := 51) hx hb dX12_leaveOver_4 (by decide) (fun _ => ?_) (fun c9_ => absurd c9_ (by decide))
  exact W.vret hx hb hr (fun t ht hW => ⟨⟨(), rfl, trivial, trivial⟩, hS.F ht⟩) hS.2.2 dX12_leaveOver_51

theorem dX12_readTable_0 : decode cX12_readTable 0 = .ok (.aload_n 0, 1) := by decide +kernel
theorem dX12_readTable_1 : decode cX12_readTable 1 = .ok (.iconst 0, 1) := by decide +kernel
theorem dX12_readTable_2 : decode cX12_readTable 2 = .ok (.putfield 164, 3) := by decide +kernel
theorem dX12_readTable_5 : decode cX12_readTable 5 = .ok (.aload_n 0, 1) := by decide +kernel
theorem dX12_readTable_6 : decode cX12_readTable 6 = .ok (.aload_n 0, 1) := by decide +kernel
theorem dX12_readTable_7 : decode cX12_readTable 7 = .ok (.getfield 153, 3) := by decide +kernel
theorem dX12_readTable_10 : decode cX12_readTable 10 = .ok (.putfield 167, 3) := by decide +kernel
theorem dX12_readTable_13 : decode cX12_readTable 13 = .ok (.aload_n 0, 1) := by decide +kernel
theorem dX12_readTable_14 : decode cX12_readTable 14 = .ok (.iconst 0, 1) := by decide +kernel
theorem dX12_readTable_15 : decode cX12_readTable 15 = .ok (.putfield 160, 3) := by decide +kernel
theorem dX12_readTable_18 : decode cX12_readTable 18 = .ok (.aload_n 0, 1) := by decide +kernel
theorem dX12_readTable_19 : decode cX12_readTable 19 = .ok (.iconst (-1), 1) := by decide +kernel
theorem dX12_readTable_20 : decode cX12_readTable 20 = .ok (.putfield 28, 3) := by decide +kernel
theorem dX12_readTable_23 : decode cX12_readTable 23 = .ok (.aload_n 0, 1) := by decide +kernel
theorem dX12_readTable_24 : decode cX12_readTable 24 = .ok (.iconst 0, 1) := by decide +kernel
theorem dX12_readTable_25 : decode cX12_readTable 25 = .ok (.putfield 183, 3) := by decide +kernel
theorem dX12_readTable_28 : decode cX12_readTable 28 = .ok (.aload_n 0, 1) := by decide +kernel
theorem dX12_readTable_29 : decode cX12_readTable 29 = .ok (.getfield 32, 3) := by decide +kernel
theorem dX12_readTable_32 : decode cX12_readTable 32 = .ok (.iconst 0, 1) := by decide +kernel
theorem dX12_readTable_33 : decode cX12_readTable 33 = .ok (.iload_n 1, 1) := by decide +kernel
theorem dX12_readTable_34 : decode cX12_readTable 34 = .ok (.iastore, 1) := by decide +kernel
theorem dX12_readTable_35 : decode cX12_readTable 35 = .ok (.iconst 1, 1) := by decide +kernel
theorem dX12_readTable_36 : decode cX12_readTable 36 = .ok (.istore_n 2, 1) := by decide +kernel
theorem dX12_readTable_37 : decode cX12_readTable 37 = .ok (.iload_n 2, 1) := by decide +kernel
theorem dX12_readTable_38 : decode cX12_readTable 38 = .ok (.ifCond .eq 38, 3) := by decide +kernel
theorem dX12_readTable_41 : decode cX12_readTable 41 = .ok (.aload_n 0, 1) := by decide +kernel
theorem dX12_readTable_42 : decode cX12_readTable 42 = .ok (.getfield 160, 3) := by decide +kernel
theorem dX12_readTable_45 : decode cX12_readTable 45 = .ok (.ifCond .ne 31, 3) := by decide +kernel
theorem dX12_readTable_48 : decode cX12_readTable 48 = .ok (.aload_n 0, 1) := by decide +kernel
theorem dX12_readTable_49 : decode cX12_readTable 49 = .ok (.invokevirtual 205, 3) := by decide +kernel
theorem dX12_readTable_52 : decode cX12_readTable 52 = .ok (.aload_n 0, 1) := by decide +kernel
theorem dX12_readTable_53 : decode cX12_readTable 53 = .ok (.invokevirtual 208, 3) := by decide +kernel
theorem dX12_readTable_56 : decode cX12_readTable 56 = .ok (.aload_n 0, 1) := by decide +kernel
theorem dX12_readTable_57 : decode cX12_readTable 57 = .ok (.getfield 164, 3) := by decide +kernel
theorem dX12_readTable_60 : decode cX12_readTable 60 = .ok (.aload_n 0, 1) := by decide +kernel
theorem dX12_readTable_61 : decode cX12_readTable 61 = .ok (.getfield 167, 3) := by decide +kernel
theorem dX12_readTable_64 : decode cX12_readTable 64 = .ok (.if_icmp .ge 7, 3) := by decide +kernel
theorem dX12_readTable_71 : decode cX12_readTable 71 = .ok (.iconst 0, 1) := by decide +kernel
theorem dX12_readTable_72 : decode cX12_readTable 72 = .ok (.istore_n 2, 1) := by decide +kernel
theorem dX12_readTable_73 : decode cX12_readTable 73 = .ok (.goto (-36), 3) := by decide +kernel
theorem dX12_readTable_76 : decode cX12_readTable 76 = .ok (.return_, 1) := by decide +kernel
def v_X12_readTable : List Cond := .code yX12_readTable cX12_readTable 3 none :: ([.fieldLink RX12 164 "RestBoardModel" "spot" "I", .fieldLink RX12 153 "RestBoardModel" "taped" "I", .fieldLink RX12 167 "RestBoardModel" "limit" "I", .fieldLink RX12 160 "RestBoardModel" "bad" "Z", .fieldLink RX12 28 "RestBoardModel" "fault" "I", .fieldLink RX12 183 "RestBoardModel" "open" "I", .fieldLink RX12 32 "RestBoardModel" "openDevice" "[I", .methodLink RX12 205 yX12_readDefinition, .instanceMethod yX12_readDefinition, .selects RX12 yX12_readDefinition yX12_readDefinition, .initialized RX12, .code yX12_readDefinition cX12_readDefinition 3 none, .methodLink RX12 173 yX12_next, .instanceMethod yX12_next, .selects RX12 yX12_next yX12_next, .code yX12_next cX12_next 4 (some .int), .methodLink RX12 170 yX12_fail, .instanceMethod yX12_fail, .selects RX12 yX12_fail yX12_fail, .code yX12_fail cX12_fail 2 none, .methodLink RX12 179 yX12_nextName, .instanceMethod yX12_nextName, .selects RX12 yX12_nextName yX12_nextName, .code yX12_nextName cX12_nextName 1 (some .int), .methodLink RX12 208 yX12_leaveOver, .instanceMethod yX12_leaveOver, .selects RX12 yX12_leaveOver yX12_leaveOver, .code yX12_leaveOver cX12_leaveOver 1 none] ++ wsX120)
theorem m_X12_readTable_0 : (.fieldLink RX12 164 "RestBoardModel" "spot" "I" : Cond) ∈ v_X12_readTable := List.mem_of_getElem? (i := 1) (by decide +kernel)
theorem m_X12_readTable_1 : (.fieldLink RX12 153 "RestBoardModel" "taped" "I" : Cond) ∈ v_X12_readTable := List.mem_of_getElem? (i := 2) (by decide +kernel)
theorem m_X12_readTable_2 : (.fieldLink RX12 167 "RestBoardModel" "limit" "I" : Cond) ∈ v_X12_readTable := List.mem_of_getElem? (i := 3) (by decide +kernel)
theorem m_X12_readTable_3 : (.fieldLink RX12 160 "RestBoardModel" "bad" "Z" : Cond) ∈ v_X12_readTable := List.mem_of_getElem? (i := 4) (by decide +kernel)
theorem m_X12_readTable_4 : (.fieldLink RX12 28 "RestBoardModel" "fault" "I" : Cond) ∈ v_X12_readTable := List.mem_of_getElem? (i := 5) (by decide +kernel)
theorem m_X12_readTable_5 : (.fieldLink RX12 183 "RestBoardModel" "open" "I" : Cond) ∈ v_X12_readTable := List.mem_of_getElem? (i := 6) (by decide +kernel)
theorem m_X12_readTable_6 : (.fieldLink RX12 32 "RestBoardModel" "openDevice" "[I" : Cond) ∈ v_X12_readTable := List.mem_of_getElem? (i := 7) (by decide +kernel)
theorem i_X12_readTable_X12 : ∀ w ∈ u_ws RX12 TX12 59, w ∈ v_X12_readTable := fun w h => List.mem_cons_of_mem _ (List.mem_append_right _ h)
set_option maxRecDepth 100000 in
theorem gg_X12_readTable_X12_readDefinition_205 : GoodIn v_X12_readTable v_X12_readDefinition := goodIn_r _ [12, 4, 13, 14, 15, 11, 16, 1, 3, 17, 18, 19, 20, 5, 21, 22, 23, 24, 29, 30, 31, 32, 33, 34, 35, 36, 37, 38, 39, 40, 41, 42, 43, 44, 45, 46, 47, 48, 49, 50, 51, 52, 53, 54, 55, 56, 57, 58, 59, 60, 61, 62, 63, 64, 65, 66, 67, 68, 69, 70, 71, 72, 73, 74, 75, 76, 77, 78, 79, 80, 81, 82, 83, 84, 85, 86, 87] (by decide +kernel) (by decide +kernel)
set_option maxRecDepth 100000 in
theorem g_X12_readTable_X12_readDefinition_205 : GoodIn v_X12_readTable (wsV RX12 205 RX12 yX12_readDefinition v_X12_readDefinition) := goodIn_app (goodIn_r _ [8, 9, 10, 11] (by decide +kernel) (by decide +kernel)) gg_X12_readTable_X12_readDefinition_205
set_option maxRecDepth 100000 in
theorem gg_X12_readTable_X12_leaveOver_208 : GoodIn v_X12_readTable v_X12_leaveOver := goodIn_r _ [28, 4, 29, 30, 31, 32, 33, 34, 35, 36, 37, 38, 39, 40, 41, 42, 43, 44, 45, 46, 47, 48, 49, 50, 51, 52, 53, 54, 55, 56, 57, 58, 59, 60, 61, 62, 63, 64, 65, 66, 67, 68, 69, 70, 71, 72, 73, 74, 75, 76, 77, 78, 79, 80, 81, 82, 83, 84, 85, 86, 87] (by decide +kernel) (by decide +kernel)
set_option maxRecDepth 100000 in
theorem g_X12_readTable_X12_leaveOver_208 : GoodIn v_X12_readTable (wsV RX12 208 RX12 yX12_leaveOver v_X12_leaveOver) := goodIn_app (goodIn_r _ [25, 26, 27, 11] (by decide +kernel) (by decide +kernel)) gg_X12_readTable_X12_leaveOver_208
set_option maxHeartbeats 4000000 in
set_option maxRecDepth 100000 in
theorem c_X12_readTable (l : Launch) (dC : Nat → ClassId) (dI : Nat → Nat → Nat) (cy : Nat → ClassId) (b : Nat → Nat) (sz : Nat) : Met l yX12_readTable v_X12_readTable ({ frames := 3, cells := 0, slots := 0, locals := 66 }) (va_Pc [.ref (b 0), .int 0] (ps dC dI cy ([(b 0, .inr (12, [.int 0, .int 0, .ref (b 1), .ref (b 2), .ref (b 3), .ref (b 4), .int 0, .ref (b 5), .ref (b 6), .int 0, .int 0, .int 0, .int (-1), .int 0, .ref (b 7), .ref (b 20), .int 0, .ref (b 21), .ref (b 22), .int 0, .int 0, .ref (b 23), .int 0, .int 0, .int 0, .int 0, .ref (b 24), .ref (b 25), .ref (b 26), .int 0, .ref (b 27), .int 0, .ref (b 28), .ref (b 29), .ref (b 30), .ref (b 31), .ref (b 32), .ref (b 33), .ref (b 34), .int 0, .int 0, .int 0, .int 0, .int 0, .int 0, .ref (b 35), .ref (b 36), .ref (b 37), .int 0, .int 0, .int 0, .ref (b 38), .int 0, .int 0, .ref (b 39), .ref (b 40), .ref (b 41), .ref (b 42), .int 0])), (b 7, .inl (cy 0, 32, .inl (fun _ => 0)))]) sz)) (va_Qv (fun (_ : uS) => True) (fun (_ : uS) (t : State) => va_P (dC, dI) vwCl ([(b 0, .inr (12, [.int 0, .int 0, .ref (b 1), .ref (b 2), .ref (b 3), .ref (b 4), .int 0, .ref (b 5), .ref (b 6), .int 0, .int 0, .int 0, .int 0, .int 1, .ref (b 7), .ref (b 20), .int 0, .ref (b 21), .ref (b 22), .int 0, .int 0, .ref (b 23), .int 0, .int 0, .int 0, .int 0, .ref (b 24), .ref (b 25), .ref (b 26), .int 0, .ref (b 27), .int 0, .ref (b 28), .ref (b 29), .ref (b 30), .ref (b 31), .ref (b 32), .ref (b 33), .ref (b 34), .int 0, .int 0, .int 0, .int 0, .int 0, .int 0, .ref (b 35), .ref (b 36), .ref (b 37), .int 0, .int 0, .int 0, .ref (b 38), .int 0, .int 0, .ref (b 39), .ref (b 40), .ref (b 41), .ref (b 42), .int 0]))]) t.heap ∧ va_D (va_A ([(b 0, .inr (12, [.int 0, .int 0, .ref (b 1), .ref (b 2), .ref (b 3), .ref (b 4), .int 0, .ref (b 5), .ref (b 6), .int 0, .int 0, .int 0, .int (-1), .int 0, .ref (b 7), .ref (b 20), .int 0, .ref (b 21), .ref (b 22), .int 0, .int 0, .ref (b 23), .int 0, .int 0, .int 0, .int 0, .ref (b 24), .ref (b 25), .ref (b 26), .int 0, .ref (b 27), .int 0, .ref (b 28), .ref (b 29), .ref (b 30), .ref (b 31), .ref (b 32), .ref (b 33), .ref (b 34), .int 0, .int 0, .int 0, .int 0, .int 0, .int 0, .ref (b 35), .ref (b 36), .ref (b 37), .int 0, .int 0, .int 0, .ref (b 38), .int 0, .int 0, .ref (b 39), .ref (b 40), .ref (b 41), .ref (b 42), .int 0])), (b 7, .inl (cy 0, 32, .inl (fun _ => 0)))]) sz) ([(b 0, .inr (12, [.int 0, .int 0, .ref (b 1), .ref (b 2), .ref (b 3), .ref (b 4), .int 0, .ref (b 5), .ref (b 6), .int 0, .int 0, .int 0, .int 0, .int 1, .ref (b 7), .ref (b 20), .int 0, .ref (b 21), .ref (b 22), .int 0, .int 0, .ref (b 23), .int 0, .int 0, .int 0, .int 0, .ref (b 24), .ref (b 25), .ref (b 26), .int 0, .ref (b 27), .int 0, .ref (b 28), .ref (b 29), .ref (b 30), .ref (b 31), .ref (b 32), .ref (b 33), .ref (b 34), .int 0, .int 0, .int 0, .int 0, .int 0, .int 0, .ref (b 35), .ref (b 36), .ref (b 37), .int 0, .int 0, .int 0, .ref (b 38), .int 0, .int 0, .ref (b 39), .ref (b 40), .ref (b 41), .ref (b 42), .int 0]))])) (va_A ([(b 0, .inr (12, [.int 0, .int 0, .ref (b 1), .ref (b 2), .ref (b 3), .ref (b 4), .int 0, .ref (b 5), .ref (b 6), .int 0, .int 0, .int 0, .int (-1), .int 0, .ref (b 7), .ref (b 20), .int 0, .ref (b 21), .ref (b 22), .int 0, .int 0, .ref (b 23), .int 0, .int 0, .int 0, .int 0, .ref (b 24), .ref (b 25), .ref (b 26), .int 0, .ref (b 27), .int 0, .ref (b 28), .ref (b 29), .ref (b 30), .ref (b 31), .ref (b 32), .ref (b 33), .ref (b 34), .int 0, .int 0, .int 0, .int 0, .int 0, .int 0, .ref (b 35), .ref (b 36), .ref (b 37), .int 0, .int 0, .int 0, .ref (b 38), .int 0, .int 0, .ref (b 39), .ref (b 40), .ref (b 41), .ref (b 42), .int 0])), (b 7, .inl (cy 0, 32, .inl (fun _ => 0)))]) sz)) 0 0 (va_A ([(b 0, .inr (12, [.int 0, .int 0, .ref (b 1), .ref (b 2), .ref (b 3), .ref (b 4), .int 0, .ref (b 5), .ref (b 6), .int 0, .int 0, .int 0, .int (-1), .int 0, .ref (b 7), .ref (b 20), .int 0, .ref (b 21), .ref (b 22), .int 0, .int 0, .ref (b 23), .int 0, .int 0, .int 0, .int 0, .ref (b 24), .ref (b 25), .ref (b 26), .int 0, .ref (b 27), .int 0, .ref (b 28), .ref (b 29), .ref (b 30), .ref (b 31), .ref (b 32), .ref (b 33), .ref (b 34), .int 0, .int 0, .int 0, .int 0, .int 0, .int 0, .ref (b 35), .ref (b 36), .ref (b 37), .int 0, .int 0, .int 0, .ref (b 38), .int 0, .int 0, .ref (b 39), .ref (b 40), .ref (b 41), .ref (b 42), .int 0])), (b 7, .inl (cy 0, 32, .inl (fun _ => 0)))]) sz) := by
  refine Met.ofW (cc := cX12_readTable) (maxL := 3) (ret := none) (by decide) rfl ?_
  intro p e s m args below meth c s₁ B hml hv
  obtain ⟨rfl, hsz, hP, hC, hD0⟩ := hv
  have hK := hC.1
  have hx := B.exec
  have hb := B.bytes
  have hr := B.returns
  have hts := atoms_spec (ws := v_X12_readTable) B.pre
  have hown : s.vm.findClass RX12 = some m.cls := findClass_of_methodNamed B.named
  have hlocks := B.notSynchronized
  subst hsz
  have hD := hD0.self (sz := s.heap.size)
  generalize hAe : va_A ([(b 0, .inr (12, [.int 0, .int 0, .ref (b 1), .ref (b 2), .ref (b 3), .ref (b 4), .int 0, .ref (b 5), .ref (b 6), .int 0, .int 0, .int 0, .int (-1), .int 0, .ref (b 7), .ref (b 20), .int 0, .ref (b 21), .ref (b 22), .int 0, .int 0, .ref (b 23), .int 0, .int 0, .int 0, .int 0, .ref (b 24), .ref (b 25), .ref (b 26), .int 0, .ref (b 27), .int 0, .ref (b 28), .ref (b 29), .ref (b 30), .ref (b 31), .ref (b 32), .ref (b 33), .ref (b 34), .int 0, .int 0, .int 0, .int 0, .int 0, .int 0, .ref (b 35), .ref (b 36), .ref (b 37), .int 0, .int 0, .int 0, .ref (b 38), .int 0, .int 0, .ref (b 39), .ref (b 40), .ref (b 41), .ref (b 42), .int 0])), (b 7, .inl (cy 0, 32, .inl (fun _ => 0)))]) s.heap.size = A at hD ⊢
  have hA : ∀ q : Nat, s.heap.size ≤ q → A q := fun q h => by rw [← hAe]; exact Or.inr h
  have hS : va_S A s.heap s.heap [] := va_S.rf
  have hl := lv_entry ([.ref (b 0), .int 0]) (n := 3) (Nat.le_of_ble_eq_true rfl)
  rw [lg_entry_eq]
  generalize (lg_sl ([.ref (b 0), .int 0]) ++ List.replicate (3 - (lg_sl ([.ref (b 0), .int 0])).length) Slot.unset).toArray = ls at hl ⊢
  have hl : lv_has ls 3 [(0, .ref (b 0)), (1, .int 0)] := hl
  refine lv_aload_n hx hb dX12_readTable_0 rfl (lv_at hl 0 rfl) ?_
  refine lv_iconst (v := 0) hx hb dX12_readTable_1 (by decide) ?_
  refine va_put (D := (dC, dI)) (ci := 12) (v := .int 0) (ty := .int) (C := RX12) (T := TX12) (N := 59) hx hb hts i_X12_readTable_X12 tyX12 tyX12_ok nmX12 hown hK hP hD hS 0 rfl rfl 10 (by decide) (hts _ m_X12_readTable_0) (fun _ h9 => h9) rfl (by decide +kernel) rfl rfl (Nat.le_of_ble_eq_true rfl) dX12_readTable_2 (fun H locs hP hD hS => ?_)
  have hP : va_P (dC, dI) vwCl ([(b 0, .inr (12, [.int 0, .int 0, .ref (b 1), .ref (b 2), .ref (b 3), .ref (b 4), .int 0, .ref (b 5), .ref (b 6), .int 0, .int 0, .int 0, .int (-1), .int 0, .ref (b 7), .ref (b 20), .int 0, .ref (b 21), .ref (b 22), .int 0, .int 0, .ref (b 23), .int 0, .int 0, .int 0, .int 0, .ref (b 24), .ref (b 25), .ref (b 26), .int 0, .ref (b 27), .int 0, .ref (b 28), .ref (b 29), .ref (b 30), .ref (b 31), .ref (b 32), .ref (b 33), .ref (b 34), .int 0, .int 0, .int 0, .int 0, .int 0, .int 0, .ref (b 35), .ref (b 36), .ref (b 37), .int 0, .int 0, .int 0, .ref (b 38), .int 0, .int 0, .ref (b 39), .ref (b 40), .ref (b 41), .ref (b 42), .int 0])), (b 7, .inl (cy 0, 32, .inl (fun _ => 0)))]) H := hP
  have hD : va_D A ([(b 0, .inr (12, [.int 0, .int 0, .ref (b 1), .ref (b 2), .ref (b 3), .ref (b 4), .int 0, .ref (b 5), .ref (b 6), .int 0, .int 0, .int 0, .int (-1), .int 0, .ref (b 7), .ref (b 20), .int 0, .ref (b 21), .ref (b 22), .int 0, .int 0, .ref (b 23), .int 0, .int 0, .int 0, .int 0, .ref (b 24), .ref (b 25), .ref (b 26), .int 0, .ref (b 27), .int 0, .ref (b 28), .ref (b 29), .ref (b 30), .ref (b 31), .ref (b 32), .ref (b 33), .ref (b 34), .int 0, .int 0, .int 0, .int 0, .int 0, .int 0, .ref (b 35), .ref (b 36), .ref (b 37), .int 0, .int 0, .int 0, .ref (b 38), .int 0, .int 0, .ref (b 39), .ref (b 40), .ref (b 41), .ref (b 42), .int 0])), (b 7, .inl (cy 0, 32, .inl (fun _ => 0)))]) := hD
  refine lv_aload_n hx hb dX12_readTable_5 rfl (lv_at hl 0 rfl) ?_
  refine lv_aload_n hx hb dX12_readTable_6 rfl (lv_at hl 0 rfl) ?_
  refine va_get (D := (dC, dI)) (ci := 12) (v := .int 0) (C := RX12) (T := TX12) (N := 59) hx hb hts i_X12_readTable_X12 hown hK hP 0 rfl rfl 9 (by decide) (hts _ m_X12_readTable_1) (fun _ h9 => h9) rfl dX12_readTable_7 ?_
  refine va_put (D := (dC, dI)) (ci := 12) (v := .int 0) (ty := .int) (C := RX12) (T := TX12) (N := 59) hx hb hts i_X12_readTable_X12 tyX12 tyX12_ok nmX12 hown hK hP hD hS 0 rfl rfl 11 (by decide) (hts _ m_X12_readTable_2) (fun _ h9 => h9) rfl (by decide +kernel) rfl rfl (Nat.le_of_ble_eq_true rfl) dX12_readTable_10 (fun H locs hP hD hS => ?_)
  have hP : va_P (dC, dI) vwCl ([(b 0, .inr (12, [.int 0, .int 0, .ref (b 1), .ref (b 2), .ref (b 3), .ref (b 4), .int 0, .ref (b 5), .ref (b 6), .int 0, .int 0, .int 0, .int (-1), .int 0, .ref (b 7), .ref (b 20), .int 0, .ref (b 21), .ref (b 22), .int 0, .int 0, .ref (b 23), .int 0, .int 0, .int 0, .int 0, .ref (b 24), .ref (b 25), .ref (b 26), .int 0, .ref (b 27), .int 0, .ref (b 28), .ref (b 29), .ref (b 30), .ref (b 31), .ref (b 32), .ref (b 33), .ref (b 34), .int 0, .int 0, .int 0, .int 0, .int 0, .int 0, .ref (b 35), .ref (b 36), .ref (b 37), .int 0, .int 0, .int 0, .ref (b 38), .int 0, .int 0, .ref (b 39), .ref (b 40), .ref (b 41), .ref (b 42), .int 0])), (b 7, .inl (cy 0, 32, .inl (fun _ => 0)))]) H := hP
  have hD : va_D A ([(b 0, .inr (12, [.int 0, .int 0, .ref (b 1), .ref (b 2), .ref (b 3), .ref (b 4), .int 0, .ref (b 5), .ref (b 6), .int 0, .int 0, .int 0, .int (-1), .int 0, .ref (b 7), .ref (b 20), .int 0, .ref (b 21), .ref (b 22), .int 0, .int 0, .ref (b 23), .int 0, .int 0, .int 0, .int 0, .ref (b 24), .ref (b 25), .ref (b 26), .int 0, .ref (b 27), .int 0, .ref (b 28), .ref (b 29), .ref (b 30), .ref (b 31), .ref (b 32), .ref (b 33), .ref (b 34), .int 0, .int 0, .int 0, .int 0, .int 0, .int 0, .ref (b 35), .ref (b 36), .ref (b 37), .int 0, .int 0, .int 0, .ref (b 38), .int 0, .int 0, .ref (b 39), .ref (b 40), .ref (b 41), .ref (b 42), .int 0])), (b 7, .inl (cy 0, 32, .inl (fun _ => 0)))]) := hD
  refine lv_aload_n hx hb dX12_readTable_13 rfl (lv_at hl 0 rfl) ?_
  refine lv_iconst (v := 0) hx hb dX12_readTable_14 (by decide) ?_
  refine va_put (D := (dC, dI)) (ci := 12) (v := .int 0) (ty := .boolean) (C := RX12) (T := TX12) (N := 59) hx hb hts i_X12_readTable_X12 tyX12 tyX12_ok nmX12 hown hK hP hD hS 0 rfl rfl 13 (by decide) (hts _ m_X12_readTable_3) (fun _ h9 => h9) rfl (by decide +kernel) rfl rfl (Nat.le_of_ble_eq_true rfl) dX12_readTable_15 (fun H locs hP hD hS => ?_)
  have hP : va_P (dC, dI) vwCl ([(b 0, .inr (12, [.int 0, .int 0, .ref (b 1), .ref (b 2), .ref (b 3), .ref (b 4), .int 0, .ref (b 5), .ref (b 6), .int 0, .int 0, .int 0, .int (-1), .int 0, .ref (b 7), .ref (b 20), .int 0, .ref (b 21), .ref (b 22), .int 0, .int 0, .ref (b 23), .int 0, .int 0, .int 0, .int 0, .ref (b 24), .ref (b 25), .ref (b 26), .int 0, .ref (b 27), .int 0, .ref (b 28), .ref (b 29), .ref (b 30), .ref (b 31), .ref (b 32), .ref (b 33), .ref (b 34), .int 0, .int 0, .int 0, .int 0, .int 0, .int 0, .ref (b 35), .ref (b 36), .ref (b 37), .int 0, .int 0, .int 0, .ref (b 38), .int 0, .int 0, .ref (b 39), .ref (b 40), .ref (b 41), .ref (b 42), .int 0])), (b 7, .inl (cy 0, 32, .inl (fun _ => 0)))]) H := hP
  have hD : va_D A ([(b 0, .inr (12, [.int 0, .int 0, .ref (b 1), .ref (b 2), .ref (b 3), .ref (b 4), .int 0, .ref (b 5), .ref (b 6), .int 0, .int 0, .int 0, .int (-1), .int 0, .ref (b 7), .ref (b 20), .int 0, .ref (b 21), .ref (b 22), .int 0, .int 0, .ref (b 23), .int 0, .int 0, .int 0, .int 0, .ref (b 24), .ref (b 25), .ref (b 26), .int 0, .ref (b 27), .int 0, .ref (b 28), .ref (b 29), .ref (b 30), .ref (b 31), .ref (b 32), .ref (b 33), .ref (b 34), .int 0, .int 0, .int 0, .int 0, .int 0, .int 0, .ref (b 35), .ref (b 36), .ref (b 37), .int 0, .int 0, .int 0, .ref (b 38), .int 0, .int 0, .ref (b 39), .ref (b 40), .ref (b 41), .ref (b 42), .int 0])), (b 7, .inl (cy 0, 32, .inl (fun _ => 0)))]) := hD
  refine lv_aload_n hx hb dX12_readTable_18 rfl (lv_at hl 0 rfl) ?_
  refine lv_iconst (v := (-1)) hx hb dX12_readTable_19 (by decide) ?_
  refine va_put (D := (dC, dI)) (ci := 12) (v := .int (-1)) (ty := .int) (C := RX12) (T := TX12) (N := 59) hx hb hts i_X12_readTable_X12 tyX12 tyX12_ok nmX12 hown hK hP hD hS 0 rfl rfl 12 (by decide) (hts _ m_X12_readTable_4) (fun _ h9 => h9) rfl (by decide +kernel) rfl rfl (Nat.le_of_ble_eq_true rfl) dX12_readTable_20 (fun H locs hP hD hS => ?_)
  have hP : va_P (dC, dI) vwCl ([(b 0, .inr (12, [.int 0, .int 0, .ref (b 1), .ref (b 2), .ref (b 3), .ref (b 4), .int 0, .ref (b 5), .ref (b 6), .int 0, .int 0, .int 0, .int (-1), .int 0, .ref (b 7), .ref (b 20), .int 0, .ref (b 21), .ref (b 22), .int 0, .int 0, .ref (b 23), .int 0, .int 0, .int 0, .int 0, .ref (b 24), .ref (b 25), .ref (b 26), .int 0, .ref (b 27), .int 0, .ref (b 28), .ref (b 29), .ref (b 30), .ref (b 31), .ref (b 32), .ref (b 33), .ref (b 34), .int 0, .int 0, .int 0, .int 0, .int 0, .int 0, .ref (b 35), .ref (b 36), .ref (b 37), .int 0, .int 0, .int 0, .ref (b 38), .int 0, .int 0, .ref (b 39), .ref (b 40), .ref (b 41), .ref (b 42), .int 0])), (b 7, .inl (cy 0, 32, .inl (fun _ => 0)))]) H := hP
  have hD : va_D A ([(b 0, .inr (12, [.int 0, .int 0, .ref (b 1), .ref (b 2), .ref (b 3), .ref (b 4), .int 0, .ref (b 5), .ref (b 6), .int 0, .int 0, .int 0, .int (-1), .int 0, .ref (b 7), .ref (b 20), .int 0, .ref (b 21), .ref (b 22), .int 0, .int 0, .ref (b 23), .int 0, .int 0, .int 0, .int 0, .ref (b 24), .ref (b 25), .ref (b 26), .int 0, .ref (b 27), .int 0, .ref (b 28), .ref (b 29), .ref (b 30), .ref (b 31), .ref (b 32), .ref (b 33), .ref (b 34), .int 0, .int 0, .int 0, .int 0, .int 0, .int 0, .ref (b 35), .ref (b 36), .ref (b 37), .int 0, .int 0, .int 0, .ref (b 38), .int 0, .int 0, .ref (b 39), .ref (b 40), .ref (b 41), .ref (b 42), .int 0])), (b 7, .inl (cy 0, 32, .inl (fun _ => 0)))]) := hD
  refine lv_aload_n hx hb dX12_readTable_23 rfl (lv_at hl 0 rfl) ?_
  refine lv_iconst (v := 0) hx hb dX12_readTable_24 (by decide) ?_
  refine va_put (D := (dC, dI)) (ci := 12) (v := .int 0) (ty := .int) (C := RX12) (T := TX12) (N := 59) hx hb hts i_X12_readTable_X12 tyX12 tyX12_ok nmX12 hown hK hP hD hS 0 rfl rfl 16 (by decide) (hts _ m_X12_readTable_5) (fun _ h9 => h9) rfl (by decide +kernel) rfl rfl (Nat.le_of_ble_eq_true rfl) dX12_readTable_25 (fun H locs hP hD hS => ?_)
  have hP : va_P (dC, dI) vwCl ([(b 0, .inr (12, [.int 0, .int 0, .ref (b 1), .ref (b 2), .ref (b 3), .ref (b 4), .int 0, .ref (b 5), .ref (b 6), .int 0, .int 0, .int 0, .int (-1), .int 0, .ref (b 7), .ref (b 20), .int 0, .ref (b 21), .ref (b 22), .int 0, .int 0, .ref (b 23), .int 0, .int 0, .int 0, .int 0, .ref (b 24), .ref (b 25), .ref (b 26), .int 0, .ref (b 27), .int 0, .ref (b 28), .ref (b 29), .ref (b 30), .ref (b 31), .ref (b 32), .ref (b 33), .ref (b 34), .int 0, .int 0, .int 0, .int 0, .int 0, .int 0, .ref (b 35), .ref (b 36), .ref (b 37), .int 0, .int 0, .int 0, .ref (b 38), .int 0, .int 0, .ref (b 39), .ref (b 40), .ref (b 41), .ref (b 42), .int 0])), (b 7, .inl (cy 0, 32, .inl (fun _ => 0)))]) H := hP
  have hD : va_D A ([(b 0, .inr (12, [.int 0, .int 0, .ref (b 1), .ref (b 2), .ref (b 3), .ref (b 4), .int 0, .ref (b 5), .ref (b 6), .int 0, .int 0, .int 0, .int (-1), .int 0, .ref (b 7), .ref (b 20), .int 0, .ref (b 21), .ref (b 22), .int 0, .int 0, .ref (b 23), .int 0, .int 0, .int 0, .int 0, .ref (b 24), .ref (b 25), .ref (b 26), .int 0, .ref (b 27), .int 0, .ref (b 28), .ref (b 29), .ref (b 30), .ref (b 31), .ref (b 32), .ref (b 33), .ref (b 34), .int 0, .int 0, .int 0, .int 0, .int 0, .int 0, .ref (b 35), .ref (b 36), .ref (b 37), .int 0, .int 0, .int 0, .ref (b 38), .int 0, .int 0, .ref (b 39), .ref (b 40), .ref (b 41), .ref (b 42), .int 0])), (b 7, .inl (cy 0, 32, .inl (fun _ => 0)))]) := hD
  refine lv_aload_n hx hb dX12_readTable_28 rfl (lv_at hl 0 rfl) ?_
  refine va_get (D := (dC, dI)) (ci := 12) (v := .ref (b 7)) (C := RX12) (T := TX12) (N := 59) hx hb hts i_X12_readTable_X12 hown hK hP 0 rfl rfl 14 (by decide) (hts _ m_X12_readTable_6) (fun _ h9 => h9) rfl dX12_readTable_29 ?_
  refine lv_iconst (v := 0) hx hb dX12_readTable_32 (by decide) ?_
  refine lv_iload_n hx hb dX12_readTable_33 rfl (lv_at hl 1 rfl) ?_
  refine va_iast hx hb hK hP hD hS 1 0 rfl rfl (show ¬ ((0 : Int32) < 0 ∨ 32 ≤ Int32.toNatClampNeg 0) by decide) dX12_readTable_34 (fun H locs hP hD hS => ?_)
  refine lv_iconst (v := 1) hx hb dX12_readTable_35 (by decide) ?_
  refine lv_istore_n (lv' := [(2, .int 1), (0, .ref (b 0)), (1, .int 0)]) hx hb dX12_readTable_36 rfl hl (by decide) rfl (fun ls hl => ?_)
  refine lv_iload_n hx hb dX12_readTable_37 rfl (lv_at hl 0 rfl) ?_
  refine lv_if_eq (tgt := 76) hx hb dX12_readTable_38 (by decide) (fun c9_ => absurd c9_ (by decide)) (fun _ => ?_)
  refine lv_aload_n hx hb dX12_readTable_41 rfl (lv_at hl 1 rfl) ?_
  refine va_get (D := (dC, dI)) (ci := 12) (v := .int 0) (C := RX12) (T := TX12) (N := 59) hx hb hts i_X12_readTable_X12 hown hK hP 0 rfl rfl 13 (by decide) (hts _ m_X12_readTable_3) (fun _ h9 => h9) rfl dX12_readTable_42 ?_
  refine lv_if_ne (tgt := 76) hx hb dX12_readTable_45 (by decide) (fun c9_ => absurd (by decide) c9_) (fun _ => ?_)
  refine lv_aload_n hx hb dX12_readTable_48 rfl (lv_at hl 1 rfl) ?_
  have hPc : va_P (dC, dI) vwCl ([(b 0, .inr (12, [.int 0, .int 0, .ref (b 1), .ref (b 2), .ref (b 3), .ref (b 4), .int 0, .ref (b 5), .ref (b 6), .int 0, .int 0, .int 0, .int (-1), .int 0, .ref (b 7), .ref (b 20), .int 0, .ref (b 21), .ref (b 22), .int 0, .int 0, .ref (b 23), .int 0, .int 0, .int 0, .int 0, .ref (b 24), .ref (b 25), .ref (b 26), .int 0, .ref (b 27), .int 0, .ref (b 28), .ref (b 29), .ref (b 30), .ref (b 31), .ref (b 32), .ref (b 33), .ref (b 34), .int 0, .int 0, .int 0, .int 0, .int 0, .int 0, .ref (b 35), .ref (b 36), .ref (b 37), .int 0, .int 0, .int 0, .ref (b 38), .int 0, .int 0, .ref (b 39), .ref (b 40), .ref (b 41), .ref (b 42), .int 0]))]) _ := hP.sub [0] rfl
  have hDc := hD.sub (ws' := [(b 0, .inr (12, [.int 0, .int 0, .ref (b 1), .ref (b 2), .ref (b 3), .ref (b 4), .int 0, .ref (b 5), .ref (b 6), .int 0, .int 0, .int 0, .int (-1), .int 0, .ref (b 7), .ref (b 20), .int 0, .ref (b 21), .ref (b 22), .int 0, .int 0, .ref (b 23), .int 0, .int 0, .int 0, .int 0, .ref (b 24), .ref (b 25), .ref (b 26), .int 0, .ref (b 27), .int 0, .ref (b 28), .ref (b 29), .ref (b 30), .ref (b 31), .ref (b 32), .ref (b 33), .ref (b 34), .int 0, .int 0, .int 0, .int 0, .int 0, .int 0, .ref (b 35), .ref (b 36), .ref (b 37), .int 0, .int 0, .int 0, .ref (b 38), .int 0, .int 0, .ref (b 39), .ref (b 40), .ref (b 41), .ref (b 42), .int 0]))]) [0] (by decide) rfl
  have hFc := va_free (wc := [(b 0, .inr (12, [.int 0, .int 0, .ref (b 1), .ref (b 2), .ref (b 3), .ref (b 4), .int 0, .ref (b 5), .ref (b 6), .int 0, .int 0, .int 0, .int (-1), .int 0, .ref (b 7), .ref (b 20), .int 0, .ref (b 21), .ref (b 22), .int 0, .int 0, .ref (b 23), .int 0, .int 0, .int 0, .int 0, .ref (b 24), .ref (b 25), .ref (b 26), .int 0, .ref (b 27), .int 0, .ref (b 28), .ref (b 29), .ref (b 30), .ref (b 31), .ref (b 32), .ref (b 33), .ref (b 34), .int 0, .int 0, .int 0, .int 0, .int 0, .int 0, .ref (b 35), .ref (b 36), .ref (b 37), .int 0, .int 0, .int 0, .ref (b 38), .int 0, .int 0, .ref (b 39), .ref (b 40), .ref (b 41), .ref (b 42), .int 0]))]) hD hS hA [0] rfl
  refine va_callv (va_runV (As := []) (rest := []) ⟨hx, hb, hml, hown, hts⟩ (c_X12_readDefinition l dC dI cy b _) (cwV 0 hts g_X12_readTable_X12_readDefinition_205 rfl rfl rfl (by decide +kernel) ⟨Nat.le_of_ble_eq_true rfl, Nat.le_of_ble_eq_true rfl⟩) (pv_ps hC hPc hDc (ci := 12) (q0 := 0) rfl rfl) rfl rfl hl.1 rfl (lv_room (Nat.le_of_ble_eq_true rfl)) dX12_readTable_49 ⟨Nat.le_of_ble_eq_true rfl, Nat.le_of_ble_eq_true rfl⟩) hS (fun q _ h => hFc q h) hFc (fun u t_ H1 locs ht hvm hw hB hz1 hk1 hS => ?_)
  obtain ⟨u1_, rfl⟩ : ∃ z, z = u := ⟨_, rfl⟩
  obtain ⟨hP1, hD1⟩ := hB
  rw [ht] at hP1
  obtain ⟨hP, hD⟩ := va_join (wr := [(b 7, .inl (cy 0, 32, .inl (upd (fun _ => 0) 0 0)))]) (w1 := [(b 0, .inr (12, [.int 0, .int 0, .ref (b 1), .ref (b 2), .ref (b 3), .ref (b 4), .int 0, .ref (b 5), .ref (b 6), .int 0, .int 0, .int 0, .int 0, .int 1, .ref (b 7), .ref (b 20), .int 0, .ref (b 21), .ref (b 22), .int 0, .int 0, .ref (b 23), .int 0, .int 0, .int 0, .int 0, .ref (b 24), .ref (b 25), .ref (b 26), .int 0, .ref (b 27), .int 0, .ref (b 28), .ref (b 29), .ref (b 30), .ref (b 31), .ref (b 32), .ref (b 33), .ref (b 34), .int 0, .int 0, .int 0, .int 0, .int 0, .int 0, .ref (b 35), .ref (b 36), .ref (b 37), .int 0, .int 0, .int 0, .ref (b 38), .int 0, .int 0, .ref (b 39), .ref (b 40), .ref (b 41), .ref (b 42), .int 0]))]) hP hD [0] [1] rfl rfl (by decide) (by decide) hk1 hFc hP1 hD1
  generalize H1 = H at hP hS ⊢
  have hP : va_P (dC, dI) vwCl ([(b 7, .inl (cy 0, 32, .inl (upd (fun _ => 0) 0 0))), (b 0, .inr (12, [.int 0, .int 0, .ref (b 1), .ref (b 2), .ref (b 3), .ref (b 4), .int 0, .ref (b 5), .ref (b 6), .int 0, .int 0, .int 0, .int 0, .int 1, .ref (b 7), .ref (b 20), .int 0, .ref (b 21), .ref (b 22), .int 0, .int 0, .ref (b 23), .int 0, .int 0, .int 0, .int 0, .ref (b 24), .ref (b 25), .ref (b 26), .int 0, .ref (b 27), .int 0, .ref (b 28), .ref (b 29), .ref (b 30), .ref (b 31), .ref (b 32), .ref (b 33), .ref (b 34), .int 0, .int 0, .int 0, .int 0, .int 0, .int 0, .ref (b 35), .ref (b 36), .ref (b 37), .int 0, .int 0, .int 0, .ref (b 38), .int 0, .int 0, .ref (b 39), .ref (b 40), .ref (b 41), .ref (b 42), .int 0]))]) H := hP
  have hD : va_D A ([(b 7, .inl (cy 0, 32, .inl (upd (fun _ => 0) 0 0))), (b 0, .inr (12, [.int 0, .int 0, .ref (b 1), .ref (b 2), .ref (b 3), .ref (b 4), .int 0, .ref (b 5), .ref (b 6), .int 0, .int 0, .int 0, .int 0, .int 1, .ref (b 7), .ref (b 20), .int 0, .ref (b 21), .ref (b 22), .int 0, .int 0, .ref (b 23), .int 0, .int 0, .int 0, .int 0, .ref (b 24), .ref (b 25), .ref (b 26), .int 0, .ref (b 27), .int 0, .ref (b 28), .ref (b 29), .ref (b 30), .ref (b 31), .ref (b 32), .ref (b 33), .ref (b 34), .int 0, .int 0, .int 0, .int 0, .int 0, .int 0, .ref (b 35), .ref (b 36), .ref (b 37), .int 0, .int 0, .int 0, .ref (b 38), .int 0, .int 0, .ref (b 39), .ref (b 40), .ref (b 41), .ref (b 42), .int 0]))]) := hD
  refine lv_aload_n hx hb dX12_readTable_52 rfl (lv_at hl 1 rfl) ?_
  have hPc : va_P (dC, dI) vwCl ([(b 0, .inr (12, [.int 0, .int 0, .ref (b 1), .ref (b 2), .ref (b 3), .ref (b 4), .int 0, .ref (b 5), .ref (b 6), .int 0, .int 0, .int 0, .int 0, .int 1, .ref (b 7), .ref (b 20), .int 0, .ref (b 21), .ref (b 22), .int 0, .int 0, .ref (b 23), .int 0, .int 0, .int 0, .int 0, .ref (b 24), .ref (b 25), .ref (b 26), .int 0, .ref (b 27), .int 0, .ref (b 28), .ref (b 29), .ref (b 30), .ref (b 31), .ref (b 32), .ref (b 33), .ref (b 34), .int 0, .int 0, .int 0, .int 0, .int 0, .int 0, .ref (b 35), .ref (b 36), .ref (b 37), .int 0, .int 0, .int 0, .ref (b 38), .int 0, .int 0, .ref (b 39), .ref (b 40), .ref (b 41), .ref (b 42), .int 0]))]) _ := hP.sub [1] rfl
  refine tk_pv (va_runV (As := []) (rest := []) ⟨hx, hb, hml, hown, hts⟩ (c_X12_leaveOver l dC dI cy b) (cwV 0 hts g_X12_readTable_X12_leaveOver_208 rfl rfl rfl (by decide +kernel) ⟨Nat.le_of_ble_eq_true rfl, Nat.le_of_ble_eq_true rfl⟩) (pv_pp hC hPc (ci := 12) (q0 := 0) rfl rfl) rfl rfl hl.1 rfl (lv_room (Nat.le_of_ble_eq_true rfl)) dX12_readTable_53 ⟨Nat.le_of_ble_eq_true rfl, Nat.le_of_ble_eq_true rfl⟩) hP hS (fun H locs hw hP hS => ?_)
  refine lv_aload_n hx hb dX12_readTable_56 rfl (lv_at hl 1 rfl) ?_
  refine va_get (D := (dC, dI)) (ci := 12) (v := .int 0) (C := RX12) (T := TX12) (N := 59) hx hb hts i_X12_readTable_X12 hown hK hP 1 rfl rfl 10 (by decide) (hts _ m_X12_readTable_0) (fun _ h9 => h9) rfl dX12_readTable_57 ?_
  refine lv_aload_n hx hb dX12_readTable_60 rfl (lv_at hl 1 rfl) ?_
  refine va_get (D := (dC, dI)) (ci := 12) (v := .int 0) (C := RX12) (T := TX12) (N := 59) hx hb hts i_X12_readTable_X12 hown hK hP 1 rfl rfl 11 (by decide) (hts _ m_X12_readTable_2) (fun _ h9 => h9) rfl dX12_readTable_61 ?_
  refine lv_icmp_ge (tgt := 71) hx hb dX12_readTable_64 (by decide) (fun _ => ?_) (fun c9_ => absurd (by decide) c9_)
  refine lv_iconst (v := 0) hx hb dX12_readTable_71 (by decide) ?_
  refine lv_istore_n (lv' := [(2, .int 0), (0, .ref (b 0)), (1, .int 0)]) hx hb dX12_readTable_72 rfl hl (by decide) rfl (fun ls hl => ?_)
  refine lv_goto (tgt := 37) hx hb dX12_readTable_73 (by decide) ?_
  refine lv_iload_n hx hb dX12_readTable_37 rfl (lv_at hl 0 rfl) ?_
  refine lv_if_eq (tgt := 76) hx hb dX12_readTable_38 (by decide) (fun _ => ?_) (fun c9_ => absurd (by decide) c9_)
  have hP9 := hP.sub (ws' := [(b 0, .inr (12, [.int 0, .int 0, .ref (b 1), .ref (b 2), .ref (b 3), .ref (b 4), .int 0, .ref (b 5), .ref (b 6), .int 0, .int 0, .int 0, .int 0, .int 1, .ref (b 7), .ref (b 20), .int 0, .ref (b 21), .ref (b 22), .int 0, .int 0, .ref (b 23), .int 0, .int 0, .int 0, .int 0, .ref (b 24), .ref (b 25), .ref (b 26), .int 0, .ref (b 27), .int 0, .ref (b 28), .ref (b 29), .ref (b 30), .ref (b 31), .ref (b 32), .ref (b 33), .ref (b 34), .int 0, .int 0, .int 0, .int 0, .int 0, .int 0, .ref (b 35), .ref (b 36), .ref (b 37), .int 0, .int 0, .int 0, .ref (b 38), .int 0, .int 0, .ref (b 39), .ref (b 40), .ref (b 41), .ref (b 42), .int 0]))]) [1] rfl
  have hD9 := hD.sub (ws' := [(b 0, .inr (12, [.int 0, .int 0, .ref (b 1), .ref (b 2), .ref (b 3), .ref (b 4), .int 0, .ref (b 5), .ref (b 6), .int 0, .int 0, .int 0, .int 0, .int 1, .ref (b 7), .ref (b 20), .int 0, .ref (b 21), .ref (b 22), .int 0, .int 0, .ref (b 23), .int 0, .int 0, .int 0, .int 0, .ref (b 24), .ref (b 25), .ref (b 26), .int 0, .ref (b 27), .int 0, .ref (b 28), .ref (b 29), .ref (b 30), .ref (b 31), .ref (b 32), .ref (b 33), .ref (b 34), .int 0, .int 0, .int 0, .int 0, .int 0, .int 0, .ref (b 35), .ref (b 36), .ref (b 37), .int 0, .int 0, .int 0, .ref (b 38), .int 0, .int 0, .ref (b 39), .ref (b 40), .ref (b 41), .ref (b 42), .int 0]))]) [1] (by decide) rfl
  exact W.vret hx hb hr (fun t ht hW => ⟨⟨((fun k => [].getD k 0, fun k => [].getD k (fun _ => 0), fun k => [].getD k (fun _ => none)) : uS), rfl, trivial, (by rw [ht]; exact hP9), hD9⟩, hS.F ht⟩) hS.2.2 dX12_readTable_76

theorem dX12_load_0 : decode cX12_load 0 = .ok (.aload_n 0, 1) := by decide +kernel
theorem dX12_load_1 : decode cX12_load 1 = .ok (.iconst 0, 1) := by decide +kernel
theorem dX12_load_2 : decode cX12_load 2 = .ok (.putfield 105, 3) := by decide +kernel
theorem dX12_load_5 : decode cX12_load 5 = .ok (.aload_n 0, 1) := by decide +kernel
theorem dX12_load_6 : decode cX12_load 6 = .ok (.iload_n 1, 1) := by decide +kernel
theorem dX12_load_7 : decode cX12_load 7 = .ok (.iconst 1, 1) := by decide +kernel
theorem dX12_load_8 : decode cX12_load 8 = .ok (.invokevirtual 143, 3) := by decide +kernel
theorem dX12_load_11 : decode cX12_load 11 = .ok (.ifCond .ne 10, 3) := by decide +kernel
theorem dX12_load_14 : decode cX12_load 14 = .ok (.aload_n 0, 1) := by decide +kernel
theorem dX12_load_15 : decode cX12_load 15 = .ok (.bipush (-2), 2) := by decide +kernel
theorem dX12_load_17 : decode cX12_load 17 = .ok (.invokevirtual 118, 3) := by decide +kernel
theorem dX12_load_20 : decode cX12_load 20 = .ok (.ireturn, 1) := by decide +kernel
theorem dX12_load_21 : decode cX12_load 21 = .ok (.aload_n 0, 1) := by decide +kernel
theorem dX12_load_22 : decode cX12_load 22 = .ok (.getfield 13, 3) := by decide +kernel
theorem dX12_load_25 : decode cX12_load 25 = .ok (.sipush 3306, 3) := by decide +kernel
theorem dX12_load_28 : decode cX12_load 28 = .ok (.iaload, 1) := by decide +kernel
theorem dX12_load_29 : decode cX12_load 29 = .ok (.ifCond .le 10, 3) := by decide +kernel
theorem dX12_load_39 : decode cX12_load 39 = .ok (.aload_n 0, 1) := by decide +kernel
theorem dX12_load_40 : decode cX12_load 40 = .ok (.getfield 13, 3) := by decide +kernel
theorem dX12_load_43 : decode cX12_load 43 = .ok (.iconst 0, 1) := by decide +kernel
theorem dX12_load_44 : decode cX12_load 44 = .ok (.aload_n 0, 1) := by decide +kernel
theorem dX12_load_45 : decode cX12_load 45 = .ok (.getfield 22, 3) := by decide +kernel
theorem dX12_load_48 : decode cX12_load 48 = .ok (.iconst 0, 1) := by decide +kernel
theorem dX12_load_49 : decode cX12_load 49 = .ok (.invokestatic 114, 3) := by decide +kernel
theorem dX12_load_52 : decode cX12_load 52 = .ok (.aload_n 0, 1) := by decide +kernel
theorem dX12_load_53 : decode cX12_load 53 = .ok (.getfield 13, 3) := by decide +kernel
theorem dX12_load_56 : decode cX12_load 56 = .ok (.sipush 3264, 3) := by decide +kernel
theorem dX12_load_59 : decode cX12_load 59 = .ok (.iaload, 1) := by decide +kernel
theorem dX12_load_60 : decode cX12_load 60 = .ok (.istore_n 2, 1) := by decide +kernel
theorem dX12_load_61 : decode cX12_load 61 = .ok (.aload_n 0, 1) := by decide +kernel
theorem dX12_load_62 : decode cX12_load 62 = .ok (.iload_n 1, 1) := by decide +kernel
theorem dX12_load_63 : decode cX12_load 63 = .ok (.invokevirtual 211, 3) := by decide +kernel
theorem dX12_load_66 : decode cX12_load 66 = .ok (.aload_n 0, 1) := by decide +kernel
theorem dX12_load_67 : decode cX12_load 67 = .ok (.iconst 0, 1) := by decide +kernel
theorem dX12_load_68 : decode cX12_load 68 = .ok (.putfield 153, 3) := by decide +kernel
theorem dX12_load_71 : decode cX12_load 71 = .ok (.aload_n 0, 1) := by decide +kernel
theorem dX12_load_72 : decode cX12_load 72 = .ok (.getfield 160, 3) := by decide +kernel
theorem dX12_load_75 : decode cX12_load 75 = .ok (.ifCond .eq 23, 3) := by decide +kernel
theorem dX12_load_78 : decode cX12_load 78 = .ok (.aload_n 0, 1) := by decide +kernel
theorem dX12_load_79 : decode cX12_load 79 = .ok (.getfield 22, 3) := by decide +kernel
theorem dX12_load_82 : decode cX12_load 82 = .ok (.iconst 0, 1) := by decide +kernel
theorem dX12_load_83 : decode cX12_load 83 = .ok (.aload_n 0, 1) := by decide +kernel
theorem dX12_load_84 : decode cX12_load 84 = .ok (.getfield 13, 3) := by decide +kernel
theorem dX12_load_87 : decode cX12_load 87 = .ok (.iconst 0, 1) := by decide +kernel
theorem dX12_load_88 : decode cX12_load 88 = .ok (.invokestatic 114, 3) := by decide +kernel
theorem dX12_load_91 : decode cX12_load 91 = .ok (.aload_n 0, 1) := by decide +kernel
theorem dX12_load_92 : decode cX12_load 92 = .ok (.bipush (-6), 2) := by decide +kernel
theorem dX12_load_94 : decode cX12_load 94 = .ok (.invokevirtual 118, 3) := by decide +kernel
theorem dX12_load_97 : decode cX12_load 97 = .ok (.ireturn, 1) := by decide +kernel
def v_X12_load : List Cond := .code yX12_load cX12_load 4 (some .int) :: ([.fieldLink RX12 105 "RestBoardModel" "thrown" "I", .fieldLink RX12 13 "RestBoardModel" "row" "[I", .fieldLink RX12 22 "RestBoardModel" "ahead" "[I", .fieldLink RX12 153 "RestBoardModel" "taped" "I", .fieldLink RX12 160 "RestBoardModel" "bad" "Z", .methodLink RX12 143 yX12_isOf, .instanceMethod yX12_isOf, .selects RX12 yX12_isOf yX12_isOf, .initialized RX12, .code yX12_isOf cX12_isOf 3 (some .boolean), .methodLink RX12 132 yX12_isNode, .instanceMethod yX12_isNode, .selects RX12 yX12_isNode yX12_isNode, .code yX12_isNode cX12_isNode 2 (some .boolean), .methodLink RX12 128 yX12_in, .static yX12_in, .code yX12_in cX12_in 6 (some .boolean), .methodLink RX12 136 yX12_kind, .instanceMethod yX12_kind, .selects RX12 yX12_kind yX12_kind, .code yX12_kind cX12_kind 2 (some .int), .methodLink RX12 125 yX12_at, .static yX12_at, .code yX12_at cX12_at 1 (some .int), .methodLink RX12 118 yX12_refuse, .instanceMethod yX12_refuse, .selects RX12 yX12_refuse yX12_refuse, .code yX12_refuse cX12_refuse 2 (some .int), .fieldLink RX12 108 "RestBoardModel" "status" "I", .fieldLink RX12 7 "RestBoardModel" "refusals" "[I", .methodLink RX12 114 yX12_copy, .static yX12_copy, .code yX12_copy cX12_copy 5 none, .methodLink RX12 211 yX12_readTable, .instanceMethod yX12_readTable, .selects RX12 yX12_readTable yX12_readTable, .code yX12_readTable cX12_readTable 3 none, .fieldLink RX12 164 "RestBoardModel" "spot" "I", .fieldLink RX12 167 "RestBoardModel" "limit" "I", .fieldLink RX12 28 "RestBoardModel" "fault" "I", .fieldLink RX12 183 "RestBoardModel" "open" "I", .fieldLink RX12 32 "RestBoardModel" "openDevice" "[I", .methodLink RX12 205 yX12_readDefinition, .instanceMethod yX12_readDefinition, .selects RX12 yX12_readDefinition yX12_readDefinition, .code yX12_readDefinition cX12_readDefinition 3 none, .methodLink RX12 173 yX12_next, .instanceMethod yX12_next, .selects RX12 yX12_next yX12_next, .code yX12_next cX12_next 4 (some .int), .methodLink RX12 170 yX12_fail, .instanceMethod yX12_fail, .selects RX12 yX12_fail yX12_fail, .code yX12_fail cX12_fail 2 none, .methodLink RX12 179 yX12_nextName, .instanceMethod yX12_nextName, .selects RX12 yX12_nextName yX12_nextName, .code yX12_nextName cX12_nextName 1 (some .int), .methodLink RX12 208 yX12_leaveOver, .instanceMethod yX12_leaveOver, .selects RX12 yX12_leaveOver yX12_leaveOver, .code yX12_leaveOver cX12_leaveOver 1 none] ++ wsX120)
theorem m_X12_load_0 : (.fieldLink RX12 105 "RestBoardModel" "thrown" "I" : Cond) ∈ v_X12_load := List.mem_of_getElem? (i := 1) (by decide +kernel)
theorem m_X12_load_1 : (.fieldLink RX12 13 "RestBoardModel" "row" "[I" : Cond) ∈ v_X12_load := List.mem_of_getElem? (i := 2) (by decide +kernel)
theorem m_X12_load_2 : (.fieldLink RX12 22 "RestBoardModel" "ahead" "[I" : Cond) ∈ v_X12_load := List.mem_of_getElem? (i := 3) (by decide +kernel)
theorem m_X12_load_3 : (.fieldLink RX12 153 "RestBoardModel" "taped" "I" : Cond) ∈ v_X12_load := List.mem_of_getElem? (i := 4) (by decide +kernel)
theorem m_X12_load_4 : (.fieldLink RX12 160 "RestBoardModel" "bad" "Z" : Cond) ∈ v_X12_load := List.mem_of_getElem? (i := 5) (by decide +kernel)
theorem i_X12_load_X12 : ∀ w ∈ u_ws RX12 TX12 59, w ∈ v_X12_load := fun w h => List.mem_cons_of_mem _ (List.mem_append_right _ h)
set_option maxRecDepth 100000 in
theorem gg_X12_load_X12_isOf_143 : GoodIn v_X12_load v_X12_isOf := goodIn_r _ [10, 11, 12, 13, 9, 14, 2, 15, 16, 17, 18, 19, 20, 21, 22, 23, 24, 63, 64, 65, 66, 67, 68, 69, 70, 71, 72, 73, 74, 75, 76, 77, 78, 79, 80, 81, 82, 83, 84, 85, 86, 87, 88, 89, 90, 91, 92, 93, 94, 95, 96, 97, 98, 99, 100, 101, 102, 103, 104, 105, 106, 107, 108, 109, 110, 111, 112, 113, 114, 115, 116, 117, 118, 119, 120, 121] (by decide +kernel) (by decide +kernel)
set_option maxRecDepth 100000 in
theorem g_X12_load_X12_isOf_143 : GoodIn v_X12_load (wsV RX12 143 RX12 yX12_isOf v_X12_isOf) := goodIn_app (goodIn_r _ [6, 7, 8, 9] (by decide +kernel) (by decide +kernel)) gg_X12_load_X12_isOf_143
set_option maxRecDepth 100000 in
theorem gg_X12_load_X12_refuse_118 : GoodIn v_X12_load v_X12_refuse := goodIn_r _ [28, 29, 30, 63, 64, 65, 66, 67, 68, 69, 70, 71, 72, 73, 74, 75, 76, 77, 78, 79, 80, 81, 82, 83, 84, 85, 86, 87, 88, 89, 90, 91, 92, 93, 94, 95, 96, 97, 98, 99, 100, 101, 102, 103, 104, 105, 106, 107, 108, 109, 110, 111, 112, 113, 114, 115, 116, 117, 118, 119, 120, 121] (by decide +kernel) (by decide +kernel)
set_option maxRecDepth 100000 in
theorem g_X12_load_X12_refuse_118 : GoodIn v_X12_load (wsV RX12 118 RX12 yX12_refuse v_X12_refuse) := goodIn_app (goodIn_r _ [25, 26, 27, 9] (by decide +kernel) (by decide +kernel)) gg_X12_load_X12_refuse_118
set_option maxRecDepth 100000 in
theorem gg_X12_load_X12_copy_114 : GoodIn v_X12_load v_X12_copy := goodIn_r _ [33] (by decide +kernel) (by decide +kernel)
set_option maxRecDepth 100000 in
theorem g_X12_load_X12_copy_114 : GoodIn v_X12_load (va_wsS RX12 114 yX12_copy v_X12_copy) := goodIn_app (goodIn_r _ [31, 32, 9] (by decide +kernel) (by decide +kernel)) gg_X12_load_X12_copy_114
set_option maxRecDepth 100000 in
theorem gg_X12_load_X12_readTable_211 : GoodIn v_X12_load v_X12_readTable := goodIn_r _ [37, 38, 4, 39, 5, 40, 41, 42, 43, 44, 45, 9, 46, 47, 48, 49, 50, 51, 52, 53, 54, 55, 56, 57, 58, 59, 60, 61, 62, 63, 64, 65, 66, 67, 68, 69, 70, 71, 72, 73, 74, 75, 76, 77, 78, 79, 80, 81, 82, 83, 84, 85, 86, 87, 88, 89, 90, 91, 92, 93, 94, 95, 96, 97, 98, 99, 100, 101, 102, 103, 104, 105, 106, 107, 108, 109, 110, 111, 112, 113, 114, 115, 116, 117, 118, 119, 120, 121] (by decide +kernel) (by decide +kernel)
set_option maxRecDepth 100000 in
theorem g_X12_load_X12_readTable_211 : GoodIn v_X12_load (wsV RX12 211 RX12 yX12_readTable v_X12_readTable) := goodIn_app (goodIn_r _ [34, 35, 36, 9] (by decide +kernel) (by decide +kernel)) gg_X12_load_X12_readTable_211
set_option maxHeartbeats 4000000 in
set_option maxRecDepth 100000 in
theorem c_X12_load (l : Launch) (dC : Nat → ClassId) (dI : Nat → Nat → Nat) (cy : Nat → ClassId) (b : Nat → Nat) (sz : Nat) (p0 : Int32) : Met l yX12_load v_X12_load ({ frames := 4, cells := 0, slots := 0, locals := 88 }) (va_Pc [.ref (b 0), .int p0] (ps dC dI cy (mw b cy) sz)) (va_Qi (fun (r : Int32) (_ : Unit) => ((p0 < 0) ∧ r = (-2)) ∨ ((¬ p0 < 0) ∧ ((0 : Int32) < p0) ∧ r = (-2)) ∨ ((p0 = 0) ∧ r = (-6))) (fun _ _ => True) (va_A (mw b cy) sz)) 0 0 (va_A (mw b cy) sz) := by
  refine Met.ofW (cc := cX12_load) (maxL := 4) (ret := (some .int)) (by decide) rfl ?_
  intro p e s m args below meth c s₁ B hml hv
  obtain ⟨rfl, hsz, hP, hC, hD0⟩ := hv
  have hK := hC.1
  have hx := B.exec
  have hb := B.bytes
  have hr := B.returns
  have hts := atoms_spec (ws := v_X12_load) B.pre
  have hown : s.vm.findClass RX12 = some m.cls := findClass_of_methodNamed B.named
  have hlocks := B.notSynchronized
  subst hsz
  have hD := hD0.self (sz := s.heap.size)
  generalize hAe : va_A (mw b cy) s.heap.size = A at hD ⊢
  have hA : ∀ q : Nat, s.heap.size ≤ q → A q := fun q h => by rw [← hAe]; exact Or.inr h
  have hS : va_S A s.heap s.heap [] := va_S.rf
  have hl := lv_entry ([.ref (b 0), .int p0]) (n := 4) (Nat.le_of_ble_eq_true rfl)
  rw [lg_entry_eq]
  generalize (lg_sl ([.ref (b 0), .int p0]) ++ List.replicate (4 - (lg_sl ([.ref (b 0), .int p0])).length) Slot.unset).toArray = ls at hl ⊢
  have hl : lv_has ls 4 [(0, .ref (b 0)), (1, .int p0)] := hl
  refine lv_aload_n hx hb dX12_load_0 rfl (lv_at hl 0 rfl) ?_
  refine lv_iconst (v := 0) hx hb dX12_load_1 (by decide) ?_
  refine va_put (D := (dC, dI)) (ci := 12) (v := .int 0) (ty := .int) (C := RX12) (T := TX12) (N := 59) hx hb hts i_X12_load_X12 tyX12 tyX12_ok nmX12 hown hK hP hD hS 0 rfl rfl 0 (by decide) (hts _ m_X12_load_0) (fun _ h9 => h9) rfl (by decide +kernel) rfl rfl (Nat.le_of_ble_eq_true rfl) dX12_load_2 (fun H locs hP hD hS => ?_)
  have hP : va_P (dC, dI) vwCl (mw b cy) H := hP
  have hD : va_D A (mw b cy) := hD
  refine lv_aload_n hx hb dX12_load_5 rfl (lv_at hl 0 rfl) ?_
  refine lv_iload_n hx hb dX12_load_6 rfl (lv_at hl 1 rfl) ?_
  refine lv_iconst (v := 1) hx hb dX12_load_7 (by decide) ?_
  refine tk_pi (va_runV (As := [.int p0, .int 1]) (rest := []) ⟨hx, hb, hml, hown, hts⟩ (c_X12_isOf l dC dI cy b p0 1) (cwV 2 hts g_X12_load_X12_isOf_143 rfl rfl rfl (by decide +kernel) ⟨Nat.le_of_ble_eq_true rfl, Nat.le_of_ble_eq_true rfl⟩) (pv_pp hC hP (ci := 12) (q0 := 0) rfl rfl) rfl rfl hl.1 rfl (lv_room (Nat.le_of_ble_eq_true rfl)) dX12_load_8 ⟨Nat.le_of_ble_eq_true rfl, Nat.le_of_ble_eq_true rfl⟩) hP hS (fun r_ H locs hw hP hS => ?_)
  rcases hw with ⟨c1_, rfl⟩ | ⟨c2_, c3_, rfl⟩ | ⟨c4_, c5_, rfl⟩ | ⟨c6_, -, rfl⟩
  · skip
    refine lv_if_ne (tgt := 21) hx hb dX12_load_11 (by decide) (fun c9_ => absurd (by decide) c9_) (fun _ => ?_)
    refine lv_aload_n hx hb dX12_load_14 rfl (lv_at hl 0 rfl) ?_
    refine lv_bipush (v := (-2)) hx hb dX12_load_15 (by decide) ?_
    have hPc : va_P (dC, dI) vwCl ([(b 0, .inr (12, [.int 0, .int 0, .ref (b 1), .ref (b 2), .ref (b 3), .ref (b 4), .int 0, .ref (b 5), .ref (b 6), .int 0, .int 0, .int 0, .int (-1), .int 0, .ref (b 7), .ref (b 20), .int 0, .ref (b 21), .ref (b 22), .int 0, .int 0, .ref (b 23), .int 0, .int 0, .int 0, .int 0, .ref (b 24), .ref (b 25), .ref (b 26), .int 0, .ref (b 27), .int 0, .ref (b 28), .ref (b 29), .ref (b 30), .ref (b 31), .ref (b 32), .ref (b 33), .ref (b 34), .int 0, .int 0, .int 0, .int 0, .int 0, .int 0, .ref (b 35), .ref (b 36), .ref (b 37), .int 0, .int 0, .int 0, .ref (b 38), .int 0, .int 0, .ref (b 39), .ref (b 40), .ref (b 41), .ref (b 42), .int 0])), (b 1, .inl (cy 0, 8, .inl (fun _ => 0)))]) _ := hP.sub [0, 1] rfl
    have hDc := hD.sub (ws' := [(b 0, .inr (12, [.int 0, .int 0, .ref (b 1), .ref (b 2), .ref (b 3), .ref (b 4), .int 0, .ref (b 5), .ref (b 6), .int 0, .int 0, .int 0, .int (-1), .int 0, .ref (b 7), .ref (b 20), .int 0, .ref (b 21), .ref (b 22), .int 0, .int 0, .ref (b 23), .int 0, .int 0, .int 0, .int 0, .ref (b 24), .ref (b 25), .ref (b 26), .int 0, .ref (b 27), .int 0, .ref (b 28), .ref (b 29), .ref (b 30), .ref (b 31), .ref (b 32), .ref (b 33), .ref (b 34), .int 0, .int 0, .int 0, .int 0, .int 0, .int 0, .ref (b 35), .ref (b 36), .ref (b 37), .int 0, .int 0, .int 0, .ref (b 38), .int 0, .int 0, .ref (b 39), .ref (b 40), .ref (b 41), .ref (b 42), .int 0])), (b 1, .inl (cy 0, 8, .inl (fun _ => 0)))]) [0, 1] (by decide) rfl
    have hFc := va_free (wc := [(b 0, .inr (12, [.int 0, .int 0, .ref (b 1), .ref (b 2), .ref (b 3), .ref (b 4), .int 0, .ref (b 5), .ref (b 6), .int 0, .int 0, .int 0, .int (-1), .int 0, .ref (b 7), .ref (b 20), .int 0, .ref (b 21), .ref (b 22), .int 0, .int 0, .ref (b 23), .int 0, .int 0, .int 0, .int 0, .ref (b 24), .ref (b 25), .ref (b 26), .int 0, .ref (b 27), .int 0, .ref (b 28), .ref (b 29), .ref (b 30), .ref (b 31), .ref (b 32), .ref (b 33), .ref (b 34), .int 0, .int 0, .int 0, .int 0, .int 0, .int 0, .ref (b 35), .ref (b 36), .ref (b 37), .int 0, .int 0, .int 0, .ref (b 38), .int 0, .int 0, .ref (b 39), .ref (b 40), .ref (b 41), .ref (b 42), .int 0])), (b 1, .inl (cy 0, 8, .inl (fun _ => 0)))]) hD hS hA [0, 1] rfl
    refine va_calli (va_runV (As := [.int (-2)]) (rest := []) ⟨hx, hb, hml, hown, hts⟩ (c_X12_refuse_2 l dC dI cy b _ 0 (-1) 0 0 0 0 0 0 0) (cwV 1 hts g_X12_load_X12_refuse_118 rfl rfl rfl (by decide +kernel) ⟨Nat.le_of_ble_eq_true rfl, Nat.le_of_ble_eq_true rfl⟩) (pv_ps hC hPc hDc (ci := 12) (q0 := 0) rfl rfl) rfl rfl hl.1 rfl (lv_room (Nat.le_of_ble_eq_true rfl)) dX12_load_17 ⟨Nat.le_of_ble_eq_true rfl, Nat.le_of_ble_eq_true rfl⟩) hS (fun q _ h => hFc q h) hFc (fun r_ u t_ H1 locs ht hvm hw hB hz1 hk1 hS => ?_)
    obtain ⟨hP, hD⟩ := va_join (wr := []) (w1 := []) hP hD [0, 1] [] rfl rfl (by decide) (by decide) hk1 hFc va_P0 va_D0
    generalize H1 = H at hP hS ⊢
    have hP : va_P (dC, dI) vwCl ([]) H := hP
    have hD : va_D A ([]) := hD
    subst hw
    exact W.iret (v := (-2)) hx hb hr (fun t ht hW => ⟨⟨(-2), (), rfl, Or.inl (⟨c1_, rfl⟩), trivial⟩, hS.F ht⟩) hS.2.2 dX12_load_20
  · skip
    refine lv_if_ne (tgt := 21) hx hb dX12_load_11 (by decide) (fun c9_ => absurd (by decide) c9_) (fun _ => ?_)
    refine lv_aload_n hx hb dX12_load_14 rfl (lv_at hl 0 rfl) ?_
    refine lv_bipush (v := (-2)) hx hb dX12_load_15 (by decide) ?_
    have hPc : va_P (dC, dI) vwCl ([(b 0, .inr (12, [.int 0, .int 0, .ref (b 1), .ref (b 2), .ref (b 3), .ref (b 4), .int 0, .ref (b 5), .ref (b 6), .int 0, .int 0, .int 0, .int (-1), .int 0, .ref (b 7), .ref (b 20), .int 0, .ref (b 21), .ref (b 22), .int 0, .int 0, .ref (b 23), .int 0, .int 0, .int 0, .int 0, .ref (b 24), .ref (b 25), .ref (b 26), .int 0, .ref (b 27), .int 0, .ref (b 28), .ref (b 29), .ref (b 30), .ref (b 31), .ref (b 32), .ref (b 33), .ref (b 34), .int 0, .int 0, .int 0, .int 0, .int 0, .int 0, .ref (b 35), .ref (b 36), .ref (b 37), .int 0, .int 0, .int 0, .ref (b 38), .int 0, .int 0, .ref (b 39), .ref (b 40), .ref (b 41), .ref (b 42), .int 0])), (b 1, .inl (cy 0, 8, .inl (fun _ => 0)))]) _ := hP.sub [0, 1] rfl
    have hDc := hD.sub (ws' := [(b 0, .inr (12, [.int 0, .int 0, .ref (b 1), .ref (b 2), .ref (b 3), .ref (b 4), .int 0, .ref (b 5), .ref (b 6), .int 0, .int 0, .int 0, .int (-1), .int 0, .ref (b 7), .ref (b 20), .int 0, .ref (b 21), .ref (b 22), .int 0, .int 0, .ref (b 23), .int 0, .int 0, .int 0, .int 0, .ref (b 24), .ref (b 25), .ref (b 26), .int 0, .ref (b 27), .int 0, .ref (b 28), .ref (b 29), .ref (b 30), .ref (b 31), .ref (b 32), .ref (b 33), .ref (b 34), .int 0, .int 0, .int 0, .int 0, .int 0, .int 0, .ref (b 35), .ref (b 36), .ref (b 37), .int 0, .int 0, .int 0, .ref (b 38), .int 0, .int 0, .ref (b 39), .ref (b 40), .ref (b 41), .ref (b 42), .int 0])), (b 1, .inl (cy 0, 8, .inl (fun _ => 0)))]) [0, 1] (by decide) rfl
    have hFc := va_free (wc := [(b 0, .inr (12, [.int 0, .int 0, .ref (b 1), .ref (b 2), .ref (b 3), .ref (b 4), .int 0, .ref (b 5), .ref (b 6), .int 0, .int 0, .int 0, .int (-1), .int 0, .ref (b 7), .ref (b 20), .int 0, .ref (b 21), .ref (b 22), .int 0, .int 0, .ref (b 23), .int 0, .int 0, .int 0, .int 0, .ref (b 24), .ref (b 25), .ref (b 26), .int 0, .ref (b 27), .int 0, .ref (b 28), .ref (b 29), .ref (b 30), .ref (b 31), .ref (b 32), .ref (b 33), .ref (b 34), .int 0, .int 0, .int 0, .int 0, .int 0, .int 0, .ref (b 35), .ref (b 36), .ref (b 37), .int 0, .int 0, .int 0, .ref (b 38), .int 0, .int 0, .ref (b 39), .ref (b 40), .ref (b 41), .ref (b 42), .int 0])), (b 1, .inl (cy 0, 8, .inl (fun _ => 0)))]) hD hS hA [0, 1] rfl
    refine va_calli (va_runV (As := [.int (-2)]) (rest := []) ⟨hx, hb, hml, hown, hts⟩ (c_X12_refuse_2 l dC dI cy b _ 0 (-1) 0 0 0 0 0 0 0) (cwV 1 hts g_X12_load_X12_refuse_118 rfl rfl rfl (by decide +kernel) ⟨Nat.le_of_ble_eq_true rfl, Nat.le_of_ble_eq_true rfl⟩) (pv_ps hC hPc hDc (ci := 12) (q0 := 0) rfl rfl) rfl rfl hl.1 rfl (lv_room (Nat.le_of_ble_eq_true rfl)) dX12_load_17 ⟨Nat.le_of_ble_eq_true rfl, Nat.le_of_ble_eq_true rfl⟩) hS (fun q _ h => hFc q h) hFc (fun r_ u t_ H1 locs ht hvm hw hB hz1 hk1 hS => ?_)
    obtain ⟨hP, hD⟩ := va_join (wr := []) (w1 := []) hP hD [0, 1] [] rfl rfl (by decide) (by decide) hk1 hFc va_P0 va_D0
    generalize H1 = H at hP hS ⊢
    have hP : va_P (dC, dI) vwCl ([]) H := hP
    have hD : va_D A ([]) := hD
    subst hw
    exact W.iret (v := (-2)) hx hb hr (fun t ht hW => ⟨⟨(-2), (), rfl, Or.inr (Or.inl (⟨c2_, c3_, rfl⟩)), trivial⟩, hS.F ht⟩) hS.2.2 dX12_load_20
  · skip
    exact absurd c5_ (by decide)
  · skip
    subst c6_
    refine lv_if_ne (tgt := 21) hx hb dX12_load_11 (by decide) (fun _ => ?_) (fun c9_ => absurd c9_ (by decide))
    refine lv_aload_n hx hb dX12_load_21 rfl (lv_at hl 0 rfl) ?_
    refine va_get (D := (dC, dI)) (ci := 12) (v := .ref (b 2)) (C := RX12) (T := TX12) (N := 59) hx hb hts i_X12_load_X12 hown hK hP 0 rfl rfl 3 (by decide) (hts _ m_X12_load_1) (fun _ h9 => h9) rfl dX12_load_22 ?_
    refine lv_sipush (v := 3306) hx hb dX12_load_25 (by decide) ?_
    refine va_iald hx hb hK hP 2 0 rfl rfl (show ¬ ((3306 : Int32) < 0 ∨ 3408 ≤ Int32.toNatClampNeg 3306) by decide) dX12_load_28 ?_
    refine tk_i 0 (by rfl) ?_
    refine lv_if_le (tgt := 39) hx hb dX12_load_29 (by decide) (fun _ => ?_) (fun c9_ => absurd (by decide) c9_)
    have hP := hP.sub (ws' := [(b 0, .inr (12, [.int 0, .int 0, .ref (b 1), .ref (b 2), .ref (b 3), .ref (b 4), .int 0, .ref (b 5), .ref (b 6), .int 0, .int 0, .int 0, .int (-1), .int 0, .ref (b 7), .ref (b 20), .int 0, .ref (b 21), .ref (b 22), .int 0, .int 0, .ref (b 23), .int 0, .int 0, .int 0, .int 0, .ref (b 24), .ref (b 25), .ref (b 26), .int 0, .ref (b 27), .int 0, .ref (b 28), .ref (b 29), .ref (b 30), .ref (b 31), .ref (b 32), .ref (b 33), .ref (b 34), .int 0, .int 0, .int 0, .int 0, .int 0, .int 0, .ref (b 35), .ref (b 36), .ref (b 37), .int 0, .int 0, .int 0, .ref (b 38), .int 0, .int 0, .ref (b 39), .ref (b 40), .ref (b 41), .ref (b 42), .int 0])), (b 1, .inl (cy 0, 8, .inl (fun _ => 0))), (b 2, .inl (cy 0, 3408, .inl (upd (upd (upd (fun _ => 0) 3264 1) 0 1) 2 (-1)))), (b 5, .inl (cy 0, 3408, .inl (fun _ => 0))), (b 7, .inl (cy 0, 32, .inl (fun _ => 0)))]) [0, 1, 2, 5, 7] rfl
    have hD := hD.sub (ws' := [(b 0, .inr (12, [.int 0, .int 0, .ref (b 1), .ref (b 2), .ref (b 3), .ref (b 4), .int 0, .ref (b 5), .ref (b 6), .int 0, .int 0, .int 0, .int (-1), .int 0, .ref (b 7), .ref (b 20), .int 0, .ref (b 21), .ref (b 22), .int 0, .int 0, .ref (b 23), .int 0, .int 0, .int 0, .int 0, .ref (b 24), .ref (b 25), .ref (b 26), .int 0, .ref (b 27), .int 0, .ref (b 28), .ref (b 29), .ref (b 30), .ref (b 31), .ref (b 32), .ref (b 33), .ref (b 34), .int 0, .int 0, .int 0, .int 0, .int 0, .int 0, .ref (b 35), .ref (b 36), .ref (b 37), .int 0, .int 0, .int 0, .ref (b 38), .int 0, .int 0, .ref (b 39), .ref (b 40), .ref (b 41), .ref (b 42), .int 0])), (b 1, .inl (cy 0, 8, .inl (fun _ => 0))), (b 2, .inl (cy 0, 3408, .inl (upd (upd (upd (fun _ => 0) 3264 1) 0 1) 2 (-1)))), (b 5, .inl (cy 0, 3408, .inl (fun _ => 0))), (b 7, .inl (cy 0, 32, .inl (fun _ => 0)))]) [0, 1, 2, 5, 7] (by decide) rfl
    refine lv_aload_n hx hb dX12_load_39 rfl (lv_at hl 0 rfl) ?_
    refine va_get (D := (dC, dI)) (ci := 12) (v := .ref (b 2)) (C := RX12) (T := TX12) (N := 59) hx hb hts i_X12_load_X12 hown hK hP 0 rfl rfl 3 (by decide) (hts _ m_X12_load_1) (fun _ h9 => h9) rfl dX12_load_40 ?_
    refine lv_iconst (v := 0) hx hb dX12_load_43 (by decide) ?_
    refine lv_aload_n hx hb dX12_load_44 rfl (lv_at hl 0 rfl) ?_
    refine va_get (D := (dC, dI)) (ci := 12) (v := .ref (b 5)) (C := RX12) (T := TX12) (N := 59) hx hb hts i_X12_load_X12 hown hK hP 0 rfl rfl 7 (by decide) (hts _ m_X12_load_2) (fun _ h9 => h9) rfl dX12_load_45 ?_
    refine lv_iconst (v := 0) hx hb dX12_load_48 (by decide) ?_
    have hPc : va_P (dC, dI) vwCl ([(b 2, .inl (cy 0, 3408, .inl (upd (upd (upd (fun _ => 0) 3264 1) 0 1) 2 (-1)))), (b 5, .inl (cy 0, 3408, .inl (fun _ => 0)))]) _ := hP.sub [2, 3] rfl
    have hDc := hD.sub (ws' := [(b 2, .inl (cy 0, 3408, .inl (upd (upd (upd (fun _ => 0) 3264 1) 0 1) 2 (-1)))), (b 5, .inl (cy 0, 3408, .inl (fun _ => 0)))]) [2, 3] (by decide) rfl
    have hFc := va_free (wc := [(b 2, .inl (cy 0, 3408, .inl (upd (upd (upd (fun _ => 0) 3264 1) 0 1) 2 (-1)))), (b 5, .inl (cy 0, 3408, .inl (fun _ => 0)))]) hD hS hA [2, 3] rfl
    refine va_callv (va_runS (As := [.ref (b 2), .int 0, .ref (b 5), .int 0]) (rest := []) ⟨hx, hb, hml, hown, hts⟩ (c_X12_copy l dC dI cy (b 2) (b 5) 3408 3408 ((upd (upd (upd (fun _ => 0) 3264 1) 0 1) 2 (-1))) ((fun _ => 0)) _ (by decide) (by decide)) (va_cwS 4 hts g_X12_load_X12_copy_114 rfl rfl rfl (by decide +kernel) ⟨Nat.le_of_ble_eq_true rfl, Nat.le_of_ble_eq_true rfl⟩) (pS_ps hC hPc hDc) rfl rfl hl.1 rfl (lv_room (Nat.le_of_ble_eq_true rfl)) dX12_load_49 ⟨Nat.le_of_ble_eq_true rfl, Nat.le_of_ble_eq_true rfl⟩) hS (fun q _ h => hFc q h) hFc (fun u t_ H1 locs ht hvm hw hB hz1 hk1 hS => ?_)
    obtain ⟨u8_, rfl⟩ : ∃ z, z = u := ⟨_, rfl⟩
    obtain ⟨hP1, hD1⟩ := hB
    rw [ht] at hP1
    obtain ⟨hP, hD⟩ := va_join (wr := [(b 0, .inr (12, [.int 0, .int 0, .ref (b 1), .ref (b 2), .ref (b 3), .ref (b 4), .int 0, .ref (b 5), .ref (b 6), .int 0, .int 0, .int 0, .int (-1), .int 0, .ref (b 7), .ref (b 20), .int 0, .ref (b 21), .ref (b 22), .int 0, .int 0, .ref (b 23), .int 0, .int 0, .int 0, .int 0, .ref (b 24), .ref (b 25), .ref (b 26), .int 0, .ref (b 27), .int 0, .ref (b 28), .ref (b 29), .ref (b 30), .ref (b 31), .ref (b 32), .ref (b 33), .ref (b 34), .int 0, .int 0, .int 0, .int 0, .int 0, .int 0, .ref (b 35), .ref (b 36), .ref (b 37), .int 0, .int 0, .int 0, .ref (b 38), .int 0, .int 0, .ref (b 39), .ref (b 40), .ref (b 41), .ref (b 42), .int 0])), (b 1, .inl (cy 0, 8, .inl (fun _ => 0))), (b 7, .inl (cy 0, 32, .inl (fun _ => 0)))]) (w1 := [(b 2, .inl (cy 0, 3408, .inl (upd (upd (upd (fun _ => 0) 3264 1) 0 1) 2 (-1)))), (b 5, .inl (cy 0, 3408, .inl (u8_.2.1 0)))]) hP hD [2, 3] [0, 1, 4] rfl rfl (by decide) (by decide) hk1 hFc hP1 hD1
    generalize H1 = H at hP hS ⊢
    have hP : va_P (dC, dI) vwCl ([(b 0, .inr (12, [.int 0, .int 0, .ref (b 1), .ref (b 2), .ref (b 3), .ref (b 4), .int 0, .ref (b 5), .ref (b 6), .int 0, .int 0, .int 0, .int (-1), .int 0, .ref (b 7), .ref (b 20), .int 0, .ref (b 21), .ref (b 22), .int 0, .int 0, .ref (b 23), .int 0, .int 0, .int 0, .int 0, .ref (b 24), .ref (b 25), .ref (b 26), .int 0, .ref (b 27), .int 0, .ref (b 28), .ref (b 29), .ref (b 30), .ref (b 31), .ref (b 32), .ref (b 33), .ref (b 34), .int 0, .int 0, .int 0, .int 0, .int 0, .int 0, .ref (b 35), .ref (b 36), .ref (b 37), .int 0, .int 0, .int 0, .ref (b 38), .int 0, .int 0, .ref (b 39), .ref (b 40), .ref (b 41), .ref (b 42), .int 0])), (b 1, .inl (cy 0, 8, .inl (fun _ => 0))), (b 7, .inl (cy 0, 32, .inl (fun _ => 0))), (b 2, .inl (cy 0, 3408, .inl (upd (upd (upd (fun _ => 0) 3264 1) 0 1) 2 (-1)))), (b 5, .inl (cy 0, 3408, .inl (u8_.2.1 0)))]) H := hP
    have hD : va_D A ([(b 0, .inr (12, [.int 0, .int 0, .ref (b 1), .ref (b 2), .ref (b 3), .ref (b 4), .int 0, .ref (b 5), .ref (b 6), .int 0, .int 0, .int 0, .int (-1), .int 0, .ref (b 7), .ref (b 20), .int 0, .ref (b 21), .ref (b 22), .int 0, .int 0, .ref (b 23), .int 0, .int 0, .int 0, .int 0, .ref (b 24), .ref (b 25), .ref (b 26), .int 0, .ref (b 27), .int 0, .ref (b 28), .ref (b 29), .ref (b 30), .ref (b 31), .ref (b 32), .ref (b 33), .ref (b 34), .int 0, .int 0, .int 0, .int 0, .int 0, .int 0, .ref (b 35), .ref (b 36), .ref (b 37), .int 0, .int 0, .int 0, .ref (b 38), .int 0, .int 0, .ref (b 39), .ref (b 40), .ref (b 41), .ref (b 42), .int 0])), (b 1, .inl (cy 0, 8, .inl (fun _ => 0))), (b 7, .inl (cy 0, 32, .inl (fun _ => 0))), (b 2, .inl (cy 0, 3408, .inl (upd (upd (upd (fun _ => 0) 3264 1) 0 1) 2 (-1)))), (b 5, .inl (cy 0, 3408, .inl (u8_.2.1 0)))]) := hD
    refine lv_aload_n hx hb dX12_load_52 rfl (lv_at hl 0 rfl) ?_
    refine va_get (D := (dC, dI)) (ci := 12) (v := .ref (b 2)) (C := RX12) (T := TX12) (N := 59) hx hb hts i_X12_load_X12 hown hK hP 0 rfl rfl 3 (by decide) (hts _ m_X12_load_1) (fun _ h9 => h9) rfl dX12_load_53 ?_
    refine lv_sipush (v := 3264) hx hb dX12_load_56 (by decide) ?_
    refine va_iald hx hb hK hP 3 0 rfl rfl (show ¬ ((3264 : Int32) < 0 ∨ 3408 ≤ Int32.toNatClampNeg 3264) by decide) dX12_load_59 ?_
    refine tk_i 1 (by rfl) ?_
    refine lv_istore_n (lv' := [(2, .int 1), (0, .ref (b 0)), (1, .int 0)]) hx hb dX12_load_60 rfl hl (by decide) rfl (fun ls hl => ?_)
    refine lv_aload_n hx hb dX12_load_61 rfl (lv_at hl 1 rfl) ?_
    refine lv_iload_n hx hb dX12_load_62 rfl (lv_at hl 2 rfl) ?_
    have hPc : va_P (dC, dI) vwCl ([(b 0, .inr (12, [.int 0, .int 0, .ref (b 1), .ref (b 2), .ref (b 3), .ref (b 4), .int 0, .ref (b 5), .ref (b 6), .int 0, .int 0, .int 0, .int (-1), .int 0, .ref (b 7), .ref (b 20), .int 0, .ref (b 21), .ref (b 22), .int 0, .int 0, .ref (b 23), .int 0, .int 0, .int 0, .int 0, .ref (b 24), .ref (b 25), .ref (b 26), .int 0, .ref (b 27), .int 0, .ref (b 28), .ref (b 29), .ref (b 30), .ref (b 31), .ref (b 32), .ref (b 33), .ref (b 34), .int 0, .int 0, .int 0, .int 0, .int 0, .int 0, .ref (b 35), .ref (b 36), .ref (b 37), .int 0, .int 0, .int 0, .ref (b 38), .int 0, .int 0, .ref (b 39), .ref (b 40), .ref (b 41), .ref (b 42), .int 0])), (b 7, .inl (cy 0, 32, .inl (fun _ => 0)))]) _ := hP.sub [0, 2] rfl
    have hDc := hD.sub (ws' := [(b 0, .inr (12, [.int 0, .int 0, .ref (b 1), .ref (b 2), .ref (b 3), .ref (b 4), .int 0, .ref (b 5), .ref (b 6), .int 0, .int 0, .int 0, .int (-1), .int 0, .ref (b 7), .ref (b 20), .int 0, .ref (b 21), .ref (b 22), .int 0, .int 0, .ref (b 23), .int 0, .int 0, .int 0, .int 0, .ref (b 24), .ref (b 25), .ref (b 26), .int 0, .ref (b 27), .int 0, .ref (b 28), .ref (b 29), .ref (b 30), .ref (b 31), .ref (b 32), .ref (b 33), .ref (b 34), .int 0, .int 0, .int 0, .int 0, .int 0, .int 0, .ref (b 35), .ref (b 36), .ref (b 37), .int 0, .int 0, .int 0, .ref (b 38), .int 0, .int 0, .ref (b 39), .ref (b 40), .ref (b 41), .ref (b 42), .int 0])), (b 7, .inl (cy 0, 32, .inl (fun _ => 0)))]) [0, 2] (by decide) rfl
    have hFc := va_free (wc := [(b 0, .inr (12, [.int 0, .int 0, .ref (b 1), .ref (b 2), .ref (b 3), .ref (b 4), .int 0, .ref (b 5), .ref (b 6), .int 0, .int 0, .int 0, .int (-1), .int 0, .ref (b 7), .ref (b 20), .int 0, .ref (b 21), .ref (b 22), .int 0, .int 0, .ref (b 23), .int 0, .int 0, .int 0, .int 0, .ref (b 24), .ref (b 25), .ref (b 26), .int 0, .ref (b 27), .int 0, .ref (b 28), .ref (b 29), .ref (b 30), .ref (b 31), .ref (b 32), .ref (b 33), .ref (b 34), .int 0, .int 0, .int 0, .int 0, .int 0, .int 0, .ref (b 35), .ref (b 36), .ref (b 37), .int 0, .int 0, .int 0, .ref (b 38), .int 0, .int 0, .ref (b 39), .ref (b 40), .ref (b 41), .ref (b 42), .int 0])), (b 7, .inl (cy 0, 32, .inl (fun _ => 0)))]) hD hS hA [0, 2] rfl
    refine va_callv (va_runV (As := [.int 0]) (rest := []) ⟨hx, hb, hml, hown, hts⟩ (c_X12_readTable l dC dI cy b _) (cwV 1 hts g_X12_load_X12_readTable_211 rfl rfl rfl (by decide +kernel) ⟨Nat.le_of_ble_eq_true rfl, Nat.le_of_ble_eq_true rfl⟩) (pv_ps hC hPc hDc (ci := 12) (q0 := 0) rfl rfl) rfl rfl hl.1 rfl (lv_room (Nat.le_of_ble_eq_true rfl)) dX12_load_63 ⟨Nat.le_of_ble_eq_true rfl, Nat.le_of_ble_eq_true rfl⟩) hS (fun q _ h => hFc q h) hFc (fun u t_ H1 locs ht hvm hw hB hz1 hk1 hS => ?_)
    obtain ⟨u9_, rfl⟩ : ∃ z, z = u := ⟨_, rfl⟩
    obtain ⟨hP1, hD1⟩ := hB
    rw [ht] at hP1
    obtain ⟨hP, hD⟩ := va_join (wr := [(b 1, .inl (cy 0, 8, .inl (fun _ => 0))), (b 2, .inl (cy 0, 3408, .inl (upd (upd (upd (fun _ => 0) 3264 1) 0 1) 2 (-1)))), (b 5, .inl (cy 0, 3408, .inl (u8_.2.1 0)))]) (w1 := [(b 0, .inr (12, [.int 0, .int 0, .ref (b 1), .ref (b 2), .ref (b 3), .ref (b 4), .int 0, .ref (b 5), .ref (b 6), .int 0, .int 0, .int 0, .int 0, .int 1, .ref (b 7), .ref (b 20), .int 0, .ref (b 21), .ref (b 22), .int 0, .int 0, .ref (b 23), .int 0, .int 0, .int 0, .int 0, .ref (b 24), .ref (b 25), .ref (b 26), .int 0, .ref (b 27), .int 0, .ref (b 28), .ref (b 29), .ref (b 30), .ref (b 31), .ref (b 32), .ref (b 33), .ref (b 34), .int 0, .int 0, .int 0, .int 0, .int 0, .int 0, .ref (b 35), .ref (b 36), .ref (b 37), .int 0, .int 0, .int 0, .ref (b 38), .int 0, .int 0, .ref (b 39), .ref (b 40), .ref (b 41), .ref (b 42), .int 0]))]) hP hD [0, 2] [1, 3, 4] rfl rfl (by decide) (by decide) hk1 hFc hP1 hD1
    generalize H1 = H at hP hS ⊢
    have hP : va_P (dC, dI) vwCl ([(b 1, .inl (cy 0, 8, .inl (fun _ => 0))), (b 2, .inl (cy 0, 3408, .inl (upd (upd (upd (fun _ => 0) 3264 1) 0 1) 2 (-1)))), (b 5, .inl (cy 0, 3408, .inl (u8_.2.1 0))), (b 0, .inr (12, [.int 0, .int 0, .ref (b 1), .ref (b 2), .ref (b 3), .ref (b 4), .int 0, .ref (b 5), .ref (b 6), .int 0, .int 0, .int 0, .int 0, .int 1, .ref (b 7), .ref (b 20), .int 0, .ref (b 21), .ref (b 22), .int 0, .int 0, .ref (b 23), .int 0, .int 0, .int 0, .int 0, .ref (b 24), .ref (b 25), .ref (b 26), .int 0, .ref (b 27), .int 0, .ref (b 28), .ref (b 29), .ref (b 30), .ref (b 31), .ref (b 32), .ref (b 33), .ref (b 34), .int 0, .int 0, .int 0, .int 0, .int 0, .int 0, .ref (b 35), .ref (b 36), .ref (b 37), .int 0, .int 0, .int 0, .ref (b 38), .int 0, .int 0, .ref (b 39), .ref (b 40), .ref (b 41), .ref (b 42), .int 0]))]) H := hP
    have hD : va_D A ([(b 1, .inl (cy 0, 8, .inl (fun _ => 0))), (b 2, .inl (cy 0, 3408, .inl (upd (upd (upd (fun _ => 0) 3264 1) 0 1) 2 (-1)))), (b 5, .inl (cy 0, 3408, .inl (u8_.2.1 0))), (b 0, .inr (12, [.int 0, .int 0, .ref (b 1), .ref (b 2), .ref (b 3), .ref (b 4), .int 0, .ref (b 5), .ref (b 6), .int 0, .int 0, .int 0, .int 0, .int 1, .ref (b 7), .ref (b 20), .int 0, .ref (b 21), .ref (b 22), .int 0, .int 0, .ref (b 23), .int 0, .int 0, .int 0, .int 0, .ref (b 24), .ref (b 25), .ref (b 26), .int 0, .ref (b 27), .int 0, .ref (b 28), .ref (b 29), .ref (b 30), .ref (b 31), .ref (b 32), .ref (b 33), .ref (b 34), .int 0, .int 0, .int 0, .int 0, .int 0, .int 0, .ref (b 35), .ref (b 36), .ref (b 37), .int 0, .int 0, .int 0, .ref (b 38), .int 0, .int 0, .ref (b 39), .ref (b 40), .ref (b 41), .ref (b 42), .int 0]))]) := hD
    refine lv_aload_n hx hb dX12_load_66 rfl (lv_at hl 1 rfl) ?_
    refine lv_iconst (v := 0) hx hb dX12_load_67 (by decide) ?_
    refine va_put (D := (dC, dI)) (ci := 12) (v := .int 0) (ty := .int) (C := RX12) (T := TX12) (N := 59) hx hb hts i_X12_load_X12 tyX12 tyX12_ok nmX12 hown hK hP hD hS 3 rfl rfl 9 (by decide) (hts _ m_X12_load_3) (fun _ h9 => h9) rfl (by decide +kernel) rfl rfl (Nat.le_of_ble_eq_true rfl) dX12_load_68 (fun H locs hP hD hS => ?_)
    refine lv_aload_n hx hb dX12_load_71 rfl (lv_at hl 1 rfl) ?_
    refine va_get (D := (dC, dI)) (ci := 12) (v := .int 1) (C := RX12) (T := TX12) (N := 59) hx hb hts i_X12_load_X12 hown hK hP 3 rfl rfl 13 (by decide) (hts _ m_X12_load_4) (fun _ h9 => h9) rfl dX12_load_72 ?_
    refine lv_if_eq (tgt := 98) hx hb dX12_load_75 (by decide) (fun c9_ => absurd c9_ (by decide)) (fun _ => ?_)
    refine lv_aload_n hx hb dX12_load_78 rfl (lv_at hl 1 rfl) ?_
    refine va_get (D := (dC, dI)) (ci := 12) (v := .ref (b 5)) (C := RX12) (T := TX12) (N := 59) hx hb hts i_X12_load_X12 hown hK hP 3 rfl rfl 7 (by decide) (hts _ m_X12_load_2) (fun _ h9 => h9) rfl dX12_load_79 ?_
    refine lv_iconst (v := 0) hx hb dX12_load_82 (by decide) ?_
    refine lv_aload_n hx hb dX12_load_83 rfl (lv_at hl 1 rfl) ?_
    refine va_get (D := (dC, dI)) (ci := 12) (v := .ref (b 2)) (C := RX12) (T := TX12) (N := 59) hx hb hts i_X12_load_X12 hown hK hP 3 rfl rfl 3 (by decide) (hts _ m_X12_load_1) (fun _ h9 => h9) rfl dX12_load_84 ?_
    refine lv_iconst (v := 0) hx hb dX12_load_87 (by decide) ?_
    have hPc : va_P (dC, dI) vwCl ([(b 5, .inl (cy 0, 3408, .inl (u8_.2.1 0))), (b 2, .inl (cy 0, 3408, .inl (upd (upd (upd (fun _ => 0) 3264 1) 0 1) 2 (-1))))]) _ := hP.sub [2, 1] rfl
    have hDc := hD.sub (ws' := [(b 5, .inl (cy 0, 3408, .inl (u8_.2.1 0))), (b 2, .inl (cy 0, 3408, .inl (upd (upd (upd (fun _ => 0) 3264 1) 0 1) 2 (-1))))]) [2, 1] (by decide) rfl
    have hFc := va_free (wc := [(b 5, .inl (cy 0, 3408, .inl (u8_.2.1 0))), (b 2, .inl (cy 0, 3408, .inl (upd (upd (upd (fun _ => 0) 3264 1) 0 1) 2 (-1))))]) hD hS hA [2, 1] rfl
    refine va_callv (va_runS (As := [.ref (b 5), .int 0, .ref (b 2), .int 0]) (rest := []) ⟨hx, hb, hml, hown, hts⟩ (c_X12_copy l dC dI cy (b 5) (b 2) 3408 3408 ((u8_.2.1 0)) ((upd (upd (upd (fun _ => 0) 3264 1) 0 1) 2 (-1))) _ (by decide) (by decide)) (va_cwS 4 hts g_X12_load_X12_copy_114 rfl rfl rfl (by decide +kernel) ⟨Nat.le_of_ble_eq_true rfl, Nat.le_of_ble_eq_true rfl⟩) (pS_ps hC hPc hDc) rfl rfl hl.1 rfl (lv_room (Nat.le_of_ble_eq_true rfl)) dX12_load_88 ⟨Nat.le_of_ble_eq_true rfl, Nat.le_of_ble_eq_true rfl⟩) hS (fun q _ h => hFc q h) hFc (fun u t_ H1 locs ht hvm hw hB hz1 hk1 hS => ?_)
    obtain ⟨u10_, rfl⟩ : ∃ z, z = u := ⟨_, rfl⟩
    obtain ⟨hP1, hD1⟩ := hB
    rw [ht] at hP1
    obtain ⟨hP, hD⟩ := va_join (wr := [(b 1, .inl (cy 0, 8, .inl (fun _ => 0))), (b 0, .inr (12, [.int 0, .int 0, .ref (b 1), .ref (b 2), .ref (b 3), .ref (b 4), .int 0, .ref (b 5), .ref (b 6), .int 0, .int 0, .int 0, .int 0, .int 1, .ref (b 7), .ref (b 20), .int 0, .ref (b 21), .ref (b 22), .int 0, .int 0, .ref (b 23), .int 0, .int 0, .int 0, .int 0, .ref (b 24), .ref (b 25), .ref (b 26), .int 0, .ref (b 27), .int 0, .ref (b 28), .ref (b 29), .ref (b 30), .ref (b 31), .ref (b 32), .ref (b 33), .ref (b 34), .int 0, .int 0, .int 0, .int 0, .int 0, .int 0, .ref (b 35), .ref (b 36), .ref (b 37), .int 0, .int 0, .int 0, .ref (b 38), .int 0, .int 0, .ref (b 39), .ref (b 40), .ref (b 41), .ref (b 42), .int 0]))]) (w1 := [(b 5, .inl (cy 0, 3408, .inl (u8_.2.1 0))), (b 2, .inl (cy 0, 3408, .inl (u10_.2.1 0)))]) hP hD [2, 1] [0, 3] rfl rfl (by decide) (by decide) hk1 hFc hP1 hD1
    generalize H1 = H at hP hS ⊢
    have hP : va_P (dC, dI) vwCl ([(b 1, .inl (cy 0, 8, .inl (fun _ => 0))), (b 0, .inr (12, [.int 0, .int 0, .ref (b 1), .ref (b 2), .ref (b 3), .ref (b 4), .int 0, .ref (b 5), .ref (b 6), .int 0, .int 0, .int 0, .int 0, .int 1, .ref (b 7), .ref (b 20), .int 0, .ref (b 21), .ref (b 22), .int 0, .int 0, .ref (b 23), .int 0, .int 0, .int 0, .int 0, .ref (b 24), .ref (b 25), .ref (b 26), .int 0, .ref (b 27), .int 0, .ref (b 28), .ref (b 29), .ref (b 30), .ref (b 31), .ref (b 32), .ref (b 33), .ref (b 34), .int 0, .int 0, .int 0, .int 0, .int 0, .int 0, .ref (b 35), .ref (b 36), .ref (b 37), .int 0, .int 0, .int 0, .ref (b 38), .int 0, .int 0, .ref (b 39), .ref (b 40), .ref (b 41), .ref (b 42), .int 0])), (b 5, .inl (cy 0, 3408, .inl (u8_.2.1 0))), (b 2, .inl (cy 0, 3408, .inl (u10_.2.1 0)))]) H := hP
    have hD : va_D A ([(b 1, .inl (cy 0, 8, .inl (fun _ => 0))), (b 0, .inr (12, [.int 0, .int 0, .ref (b 1), .ref (b 2), .ref (b 3), .ref (b 4), .int 0, .ref (b 5), .ref (b 6), .int 0, .int 0, .int 0, .int 0, .int 1, .ref (b 7), .ref (b 20), .int 0, .ref (b 21), .ref (b 22), .int 0, .int 0, .ref (b 23), .int 0, .int 0, .int 0, .int 0, .ref (b 24), .ref (b 25), .ref (b 26), .int 0, .ref (b 27), .int 0, .ref (b 28), .ref (b 29), .ref (b 30), .ref (b 31), .ref (b 32), .ref (b 33), .ref (b 34), .int 0, .int 0, .int 0, .int 0, .int 0, .int 0, .ref (b 35), .ref (b 36), .ref (b 37), .int 0, .int 0, .int 0, .ref (b 38), .int 0, .int 0, .ref (b 39), .ref (b 40), .ref (b 41), .ref (b 42), .int 0])), (b 5, .inl (cy 0, 3408, .inl (u8_.2.1 0))), (b 2, .inl (cy 0, 3408, .inl (u10_.2.1 0)))]) := hD
    refine lv_aload_n hx hb dX12_load_91 rfl (lv_at hl 1 rfl) ?_
    refine lv_bipush (v := (-6)) hx hb dX12_load_92 (by decide) ?_
    have hPc : va_P (dC, dI) vwCl ([(b 0, .inr (12, [.int 0, .int 0, .ref (b 1), .ref (b 2), .ref (b 3), .ref (b 4), .int 0, .ref (b 5), .ref (b 6), .int 0, .int 0, .int 0, .int 0, .int 1, .ref (b 7), .ref (b 20), .int 0, .ref (b 21), .ref (b 22), .int 0, .int 0, .ref (b 23), .int 0, .int 0, .int 0, .int 0, .ref (b 24), .ref (b 25), .ref (b 26), .int 0, .ref (b 27), .int 0, .ref (b 28), .ref (b 29), .ref (b 30), .ref (b 31), .ref (b 32), .ref (b 33), .ref (b 34), .int 0, .int 0, .int 0, .int 0, .int 0, .int 0, .ref (b 35), .ref (b 36), .ref (b 37), .int 0, .int 0, .int 0, .ref (b 38), .int 0, .int 0, .ref (b 39), .ref (b 40), .ref (b 41), .ref (b 42), .int 0])), (b 1, .inl (cy 0, 8, .inl (fun _ => 0)))]) _ := hP.sub [1, 0] rfl
    have hDc := hD.sub (ws' := [(b 0, .inr (12, [.int 0, .int 0, .ref (b 1), .ref (b 2), .ref (b 3), .ref (b 4), .int 0, .ref (b 5), .ref (b 6), .int 0, .int 0, .int 0, .int 0, .int 1, .ref (b 7), .ref (b 20), .int 0, .ref (b 21), .ref (b 22), .int 0, .int 0, .ref (b 23), .int 0, .int 0, .int 0, .int 0, .ref (b 24), .ref (b 25), .ref (b 26), .int 0, .ref (b 27), .int 0, .ref (b 28), .ref (b 29), .ref (b 30), .ref (b 31), .ref (b 32), .ref (b 33), .ref (b 34), .int 0, .int 0, .int 0, .int 0, .int 0, .int 0, .ref (b 35), .ref (b 36), .ref (b 37), .int 0, .int 0, .int 0, .ref (b 38), .int 0, .int 0, .ref (b 39), .ref (b 40), .ref (b 41), .ref (b 42), .int 0])), (b 1, .inl (cy 0, 8, .inl (fun _ => 0)))]) [1, 0] (by decide) rfl
    have hFc := va_free (wc := [(b 0, .inr (12, [.int 0, .int 0, .ref (b 1), .ref (b 2), .ref (b 3), .ref (b 4), .int 0, .ref (b 5), .ref (b 6), .int 0, .int 0, .int 0, .int 0, .int 1, .ref (b 7), .ref (b 20), .int 0, .ref (b 21), .ref (b 22), .int 0, .int 0, .ref (b 23), .int 0, .int 0, .int 0, .int 0, .ref (b 24), .ref (b 25), .ref (b 26), .int 0, .ref (b 27), .int 0, .ref (b 28), .ref (b 29), .ref (b 30), .ref (b 31), .ref (b 32), .ref (b 33), .ref (b 34), .int 0, .int 0, .int 0, .int 0, .int 0, .int 0, .ref (b 35), .ref (b 36), .ref (b 37), .int 0, .int 0, .int 0, .ref (b 38), .int 0, .int 0, .ref (b 39), .ref (b 40), .ref (b 41), .ref (b 42), .int 0])), (b 1, .inl (cy 0, 8, .inl (fun _ => 0)))]) hD hS hA [1, 0] rfl
    refine va_calli (va_runV (As := [.int (-6)]) (rest := []) ⟨hx, hb, hml, hown, hts⟩ (c_X12_refuse_6 l dC dI cy b _ 1 0 0 0 0 0 0 0 0) (cwV 1 hts g_X12_load_X12_refuse_118 rfl rfl rfl (by decide +kernel) ⟨Nat.le_of_ble_eq_true rfl, Nat.le_of_ble_eq_true rfl⟩) (pv_ps hC hPc hDc (ci := 12) (q0 := 0) rfl rfl) rfl rfl hl.1 rfl (lv_room (Nat.le_of_ble_eq_true rfl)) dX12_load_94 ⟨Nat.le_of_ble_eq_true rfl, Nat.le_of_ble_eq_true rfl⟩) hS (fun q _ h => hFc q h) hFc (fun r_ u t_ H1 locs ht hvm hw hB hz1 hk1 hS => ?_)
    obtain ⟨hP, hD⟩ := va_join (wr := []) (w1 := []) hP hD [1, 0] [] rfl rfl (by decide) (by decide) hk1 hFc va_P0 va_D0
    generalize H1 = H at hP hS ⊢
    have hP : va_P (dC, dI) vwCl ([]) H := hP
    have hD : va_D A ([]) := hD
    subst hw
    exact W.iret (v := (-6)) hx hb hr (fun t ht hW => ⟨⟨(-6), (), rfl, Or.inr (Or.inr (⟨rfl, rfl⟩)), trivial⟩, hS.F ht⟩) hS.2.2 dX12_load_97

theorem dX12_remember_0 : decode cX12_remember 0 = .ok (.aload_n 0, 1) := by decide +kernel
theorem dX12_remember_1 : decode cX12_remember 1 = .ok (.getfield 111, 3) := by decide +kernel
theorem dX12_remember_4 : decode cX12_remember 4 = .ok (.bipush 8, 2) := by decide +kernel
theorem dX12_remember_6 : decode cX12_remember 6 = .ok (.if_icmp .ne 72, 3) := by decide +kernel
theorem dX12_remember_78 : decode cX12_remember 78 = .ok (.aload_n 0, 1) := by decide +kernel
theorem dX12_remember_79 : decode cX12_remember 79 = .ok (.getfield 13, 3) := by decide +kernel
theorem dX12_remember_82 : decode cX12_remember 82 = .ok (.iconst 0, 1) := by decide +kernel
theorem dX12_remember_83 : decode cX12_remember 83 = .ok (.aload_n 0, 1) := by decide +kernel
theorem dX12_remember_84 : decode cX12_remember 84 = .ok (.getfield 16, 3) := by decide +kernel
theorem dX12_remember_87 : decode cX12_remember 87 = .ok (.sipush 3408, 3) := by decide +kernel
theorem dX12_remember_90 : decode cX12_remember 90 = .ok (.aload_n 0, 1) := by decide +kernel
theorem dX12_remember_91 : decode cX12_remember 91 = .ok (.getfield 111, 3) := by decide +kernel
theorem dX12_remember_94 : decode cX12_remember 94 = .ok (.imul, 1) := by decide +kernel
theorem dX12_remember_95 : decode cX12_remember 95 = .ok (.invokestatic 114, 3) := by decide +kernel
theorem dX12_remember_98 : decode cX12_remember 98 = .ok (.aload_n 0, 1) := by decide +kernel
theorem dX12_remember_99 : decode cX12_remember 99 = .ok (.getfield 19, 3) := by decide +kernel
theorem dX12_remember_102 : decode cX12_remember 102 = .ok (.aload_n 0, 1) := by decide +kernel
theorem dX12_remember_103 : decode cX12_remember 103 = .ok (.getfield 111, 3) := by decide +kernel
theorem dX12_remember_106 : decode cX12_remember 106 = .ok (.iload_n 1, 1) := by decide +kernel
theorem dX12_remember_107 : decode cX12_remember 107 = .ok (.iastore, 1) := by decide +kernel
theorem dX12_remember_108 : decode cX12_remember 108 = .ok (.aload_n 0, 1) := by decide +kernel
theorem dX12_remember_109 : decode cX12_remember 109 = .ok (.dup, 1) := by decide +kernel
theorem dX12_remember_110 : decode cX12_remember 110 = .ok (.getfield 111, 3) := by decide +kernel
theorem dX12_remember_113 : decode cX12_remember 113 = .ok (.iconst 1, 1) := by decide +kernel
theorem dX12_remember_114 : decode cX12_remember 114 = .ok (.iadd, 1) := by decide +kernel
theorem dX12_remember_115 : decode cX12_remember 115 = .ok (.putfield 111, 3) := by decide +kernel
theorem dX12_remember_118 : decode cX12_remember 118 = .ok (.return_, 1) := by decide +kernel
def v_X12_remember : List Cond := .code yX12_remember cX12_remember 3 none :: ([.fieldLink RX12 111 "RestBoardModel" "nUndo" "I", .fieldLink RX12 13 "RestBoardModel" "row" "[I", .fieldLink RX12 16 "RestBoardModel" "undos" "[I", .fieldLink RX12 19 "RestBoardModel" "sorts" "[I", .methodLink RX12 114 yX12_copy, .static yX12_copy, .initialized RX12, .code yX12_copy cX12_copy 5 none] ++ wsX120)
theorem m_X12_remember_0 : (.fieldLink RX12 111 "RestBoardModel" "nUndo" "I" : Cond) ∈ v_X12_remember := List.mem_of_getElem? (i := 1) (by decide +kernel)
theorem m_X12_remember_1 : (.fieldLink RX12 13 "RestBoardModel" "row" "[I" : Cond) ∈ v_X12_remember := List.mem_of_getElem? (i := 2) (by decide +kernel)
theorem m_X12_remember_2 : (.fieldLink RX12 16 "RestBoardModel" "undos" "[I" : Cond) ∈ v_X12_remember := List.mem_of_getElem? (i := 3) (by decide +kernel)
theorem m_X12_remember_3 : (.fieldLink RX12 19 "RestBoardModel" "sorts" "[I" : Cond) ∈ v_X12_remember := List.mem_of_getElem? (i := 4) (by decide +kernel)
theorem i_X12_remember_X12 : ∀ w ∈ u_ws RX12 TX12 59, w ∈ v_X12_remember := fun w h => List.mem_cons_of_mem _ (List.mem_append_right _ h)
set_option maxRecDepth 100000 in
theorem gg_X12_remember_X12_copy_114 : GoodIn v_X12_remember v_X12_copy := goodIn_r _ [8] (by decide +kernel) (by decide +kernel)
set_option maxRecDepth 100000 in
theorem g_X12_remember_X12_copy_114 : GoodIn v_X12_remember (va_wsS RX12 114 yX12_copy v_X12_copy) := goodIn_app (goodIn_r _ [5, 6, 7] (by decide +kernel) (by decide +kernel)) gg_X12_remember_X12_copy_114
set_option maxHeartbeats 4000000 in
set_option maxRecDepth 100000 in
theorem c_X12_remember (l : Launch) (dC : Nat → ClassId) (dI : Nat → Nat → Nat) (cy : Nat → ClassId) (b : Nat → Nat) (sz : Nat) : Met l yX12_remember v_X12_remember ({ frames := 1, cells := 0, slots := 0, locals := 24 }) (va_Pc [.ref (b 0), .int 7] (ps dC dI cy ([(b 0, .inr (12, [.int 0, .int 0, .ref (b 1), .ref (b 2), .ref (b 3), .ref (b 4), .int 0, .ref (b 5), .ref (b 6), .int 0, .int 0, .int 0, .int (-1), .int 0, .ref (b 7), .ref (b 20), .int 0, .ref (b 21), .ref (b 22), .int 0, .int 0, .ref (b 23), .int 0, .int 0, .int 0, .int 0, .ref (b 24), .ref (b 25), .ref (b 26), .int 0, .ref (b 27), .int 0, .ref (b 28), .ref (b 29), .ref (b 30), .ref (b 31), .ref (b 32), .ref (b 33), .ref (b 34), .int 0, .int 0, .int 0, .int 0, .int 0, .int 0, .ref (b 35), .ref (b 36), .ref (b 37), .int 0, .int 0, .int 0, .ref (b 38), .int 0, .int 0, .ref (b 39), .ref (b 40), .ref (b 41), .ref (b 42), .int 0])), (b 2, .inl (cy 0, 3408, .inl (upd (upd (upd (fun _ => 0) 3264 1) 0 1) 2 (-1)))), (b 3, .inl (cy 0, 27264, .inl (fun _ => 0))), (b 4, .inl (cy 0, 8, .inl (fun _ => 0)))]) sz)) (va_Qv (fun (_ : uS) => True) (fun (_ : uS) (t : State) => va_P (dC, dI) vwCl ([(b 0, .inr (12, [.int 0, .int 0, .ref (b 1), .ref (b 2), .ref (b 3), .ref (b 4), .int 1, .ref (b 5), .ref (b 6), .int 0, .int 0, .int 0, .int (-1), .int 0, .ref (b 7), .ref (b 20), .int 0, .ref (b 21), .ref (b 22), .int 0, .int 0, .ref (b 23), .int 0, .int 0, .int 0, .int 0, .ref (b 24), .ref (b 25), .ref (b 26), .int 0, .ref (b 27), .int 0, .ref (b 28), .ref (b 29), .ref (b 30), .ref (b 31), .ref (b 32), .ref (b 33), .ref (b 34), .int 0, .int 0, .int 0, .int 0, .int 0, .int 0, .ref (b 35), .ref (b 36), .ref (b 37), .int 0, .int 0, .int 0, .ref (b 38), .int 0, .int 0, .ref (b 39), .ref (b 40), .ref (b 41), .ref (b 42), .int 0])), (b 2, .inl (cy 0, 3408, .inl (upd (upd (upd (fun _ => 0) 3264 1) 0 1) 2 (-1))))]) t.heap ∧ va_D (va_A ([(b 0, .inr (12, [.int 0, .int 0, .ref (b 1), .ref (b 2), .ref (b 3), .ref (b 4), .int 0, .ref (b 5), .ref (b 6), .int 0, .int 0, .int 0, .int (-1), .int 0, .ref (b 7), .ref (b 20), .int 0, .ref (b 21), .ref (b 22), .int 0, .int 0, .ref (b 23), .int 0, .int 0, .int 0, .int 0, .ref (b 24), .ref (b 25), .ref (b 26), .int 0, .ref (b 27), .int 0, .ref (b 28), .ref (b 29), .ref (b 30), .ref (b 31), .ref (b 32), .ref (b 33), .ref (b 34), .int 0, .int 0, .int 0, .int 0, .int 0, .int 0, .ref (b 35), .ref (b 36), .ref (b 37), .int 0, .int 0, .int 0, .ref (b 38), .int 0, .int 0, .ref (b 39), .ref (b 40), .ref (b 41), .ref (b 42), .int 0])), (b 2, .inl (cy 0, 3408, .inl (upd (upd (upd (fun _ => 0) 3264 1) 0 1) 2 (-1)))), (b 3, .inl (cy 0, 27264, .inl (fun _ => 0))), (b 4, .inl (cy 0, 8, .inl (fun _ => 0)))]) sz) ([(b 0, .inr (12, [.int 0, .int 0, .ref (b 1), .ref (b 2), .ref (b 3), .ref (b 4), .int 1, .ref (b 5), .ref (b 6), .int 0, .int 0, .int 0, .int (-1), .int 0, .ref (b 7), .ref (b 20), .int 0, .ref (b 21), .ref (b 22), .int 0, .int 0, .ref (b 23), .int 0, .int 0, .int 0, .int 0, .ref (b 24), .ref (b 25), .ref (b 26), .int 0, .ref (b 27), .int 0, .ref (b 28), .ref (b 29), .ref (b 30), .ref (b 31), .ref (b 32), .ref (b 33), .ref (b 34), .int 0, .int 0, .int 0, .int 0, .int 0, .int 0, .ref (b 35), .ref (b 36), .ref (b 37), .int 0, .int 0, .int 0, .ref (b 38), .int 0, .int 0, .ref (b 39), .ref (b 40), .ref (b 41), .ref (b 42), .int 0])), (b 2, .inl (cy 0, 3408, .inl (upd (upd (upd (fun _ => 0) 3264 1) 0 1) 2 (-1))))])) (va_A ([(b 0, .inr (12, [.int 0, .int 0, .ref (b 1), .ref (b 2), .ref (b 3), .ref (b 4), .int 0, .ref (b 5), .ref (b 6), .int 0, .int 0, .int 0, .int (-1), .int 0, .ref (b 7), .ref (b 20), .int 0, .ref (b 21), .ref (b 22), .int 0, .int 0, .ref (b 23), .int 0, .int 0, .int 0, .int 0, .ref (b 24), .ref (b 25), .ref (b 26), .int 0, .ref (b 27), .int 0, .ref (b 28), .ref (b 29), .ref (b 30), .ref (b 31), .ref (b 32), .ref (b 33), .ref (b 34), .int 0, .int 0, .int 0, .int 0, .int 0, .int 0, .ref (b 35), .ref (b 36), .ref (b 37), .int 0, .int 0, .int 0, .ref (b 38), .int 0, .int 0, .ref (b 39), .ref (b 40), .ref (b 41), .ref (b 42), .int 0])), (b 2, .inl (cy 0, 3408, .inl (upd (upd (upd (fun _ => 0) 3264 1) 0 1) 2 (-1)))), (b 3, .inl (cy 0, 27264, .inl (fun _ => 0))), (b 4, .inl (cy 0, 8, .inl (fun _ => 0)))]) sz)) 0 0 (va_A ([(b 0, .inr (12, [.int 0, .int 0, .ref (b 1), .ref (b 2), .ref (b 3), .ref (b 4), .int 0, .ref (b 5), .ref (b 6), .int 0, .int 0, .int 0, .int (-1), .int 0, .ref (b 7), .ref (b 20), .int 0, .ref (b 21), .ref (b 22), .int 0, .int 0, .ref (b 23), .int 0, .int 0, .int 0, .int 0, .ref (b 24), .ref (b 25), .ref (b 26), .int 0, .ref (b 27), .int 0, .ref (b 28), .ref (b 29), .ref (b 30), .ref (b 31), .ref (b 32), .ref (b 33), .ref (b 34), .int 0, .int 0, .int 0, .int 0, .int 0, .int 0, .ref (b 35), .ref (b 36), .ref (b 37), .int 0, .int 0, .int 0, .ref (b 38), .int 0, .int 0, .ref (b 39), .ref (b 40), .ref (b 41), .ref (b 42), .int 0])), (b 2, .inl (cy 0, 3408, .inl (upd (upd (upd (fun _ => 0) 3264 1) 0 1) 2 (-1)))), (b 3, .inl (cy 0, 27264, .inl (fun _ => 0))), (b 4, .inl (cy 0, 8, .inl (fun _ => 0)))]) sz) := by
  refine Met.ofW (cc := cX12_remember) (maxL := 3) (ret := none) (by decide) rfl ?_
  intro p e s m args below meth c s₁ B hml hv
  obtain ⟨rfl, hsz, hP, hC, hD0⟩ := hv
  have hK := hC.1
  have hx := B.exec
  have hb := B.bytes
  have hr := B.returns
  have hts := atoms_spec (ws := v_X12_remember) B.pre
  have hown : s.vm.findClass RX12 = some m.cls := findClass_of_methodNamed B.named
  have hlocks := B.notSynchronized
  subst hsz
  have hD := hD0.self (sz := s.heap.size)
  generalize hAe : va_A ([(b 0, .inr (12, [.int 0, .int 0, .ref (b 1), .ref (b 2), .ref (b 3), .ref (b 4), .int 0, .ref (b 5), .ref (b 6), .int 0, .int 0, .int 0, .int (-1), .int 0, .ref (b 7), .ref (b 20), .int 0, .ref (b 21), .ref (b 22), .int 0, .int 0, .ref (b 23), .int 0, .int 0, .int 0, .int 0, .ref (b 24), .ref (b 25), .ref (b 26), .int 0, .ref (b 27), .int 0, .ref (b 28), .ref (b 29), .ref (b 30), .ref (b 31), .ref (b 32), .ref (b 33), .ref (b 34), .int 0, .int 0, .int 0, .int 0, .int 0, .int 0, .ref (b 35), .ref (b 36), .ref (b 37), .int 0, .int 0, .int 0, .ref (b 38), .int 0, .int 0, .ref (b 39), .ref (b 40), .ref (b 41), .ref (b 42), .int 0])), (b 2, .inl (cy 0, 3408, .inl (upd (upd (upd (fun _ => 0) 3264 1) 0 1) 2 (-1)))), (b 3, .inl (cy 0, 27264, .inl (fun _ => 0))), (b 4, .inl (cy 0, 8, .inl (fun _ => 0)))]) s.heap.size = A at hD ⊢
  have hA : ∀ q : Nat, s.heap.size ≤ q → A q := fun q h => by rw [← hAe]; exact Or.inr h
  have hS : va_S A s.heap s.heap [] := va_S.rf
  have hl := lv_entry ([.ref (b 0), .int 7]) (n := 3) (Nat.le_of_ble_eq_true rfl)
  rw [lg_entry_eq]
  generalize (lg_sl ([.ref (b 0), .int 7]) ++ List.replicate (3 - (lg_sl ([.ref (b 0), .int 7])).length) Slot.unset).toArray = ls at hl ⊢
  have hl : lv_has ls 3 [(0, .ref (b 0)), (1, .int 7)] := hl
  refine lv_aload_n hx hb dX12_remember_0 rfl (lv_at hl 0 rfl) ?_
  refine va_get (D := (dC, dI)) (ci := 12) (v := .int 0) (C := RX12) (T := TX12) (N := 59) hx hb hts i_X12_remember_X12 hown hK hP 0 rfl rfl 6 (by decide) (hts _ m_X12_remember_0) (fun _ h9 => h9) rfl dX12_remember_1 ?_
  refine lv_bipush (v := 8) hx hb dX12_remember_4 (by decide) ?_
  refine lv_icmp_ne (tgt := 78) hx hb dX12_remember_6 (by decide) (fun _ => ?_) (fun c9_ => absurd c9_ (by decide))
  refine lv_aload_n hx hb dX12_remember_78 rfl (lv_at hl 0 rfl) ?_
  refine va_get (D := (dC, dI)) (ci := 12) (v := .ref (b 2)) (C := RX12) (T := TX12) (N := 59) hx hb hts i_X12_remember_X12 hown hK hP 0 rfl rfl 3 (by decide) (hts _ m_X12_remember_1) (fun _ h9 => h9) rfl dX12_remember_79 ?_
  refine lv_iconst (v := 0) hx hb dX12_remember_82 (by decide) ?_
  refine lv_aload_n hx hb dX12_remember_83 rfl (lv_at hl 0 rfl) ?_
  refine va_get (D := (dC, dI)) (ci := 12) (v := .ref (b 3)) (C := RX12) (T := TX12) (N := 59) hx hb hts i_X12_remember_X12 hown hK hP 0 rfl rfl 4 (by decide) (hts _ m_X12_remember_2) (fun _ h9 => h9) rfl dX12_remember_84 ?_
  refine lv_sipush (v := 3408) hx hb dX12_remember_87 (by decide) ?_
  refine lv_aload_n hx hb dX12_remember_90 rfl (lv_at hl 0 rfl) ?_
  refine va_get (D := (dC, dI)) (ci := 12) (v := .int 0) (C := RX12) (T := TX12) (N := 59) hx hb hts i_X12_remember_X12 hown hK hP 0 rfl rfl 6 (by decide) (hts _ m_X12_remember_0) (fun _ h9 => h9) rfl dX12_remember_91 ?_
  refine lv_imul hx hb dX12_remember_94 ?_
  refine tk_i 0 (by decide) ?_
  have hPc : va_P (dC, dI) vwCl ([(b 2, .inl (cy 0, 3408, .inl (upd (upd (upd (fun _ => 0) 3264 1) 0 1) 2 (-1)))), (b 3, .inl (cy 0, 27264, .inl (fun _ => 0)))]) _ := hP.sub [1, 2] rfl
  have hDc := hD.sub (ws' := [(b 2, .inl (cy 0, 3408, .inl (upd (upd (upd (fun _ => 0) 3264 1) 0 1) 2 (-1)))), (b 3, .inl (cy 0, 27264, .inl (fun _ => 0)))]) [1, 2] (by decide) rfl
  have hFc := va_free (wc := [(b 2, .inl (cy 0, 3408, .inl (upd (upd (upd (fun _ => 0) 3264 1) 0 1) 2 (-1)))), (b 3, .inl (cy 0, 27264, .inl (fun _ => 0)))]) hD hS hA [1, 2] rfl
  refine va_callv (va_runS (As := [.ref (b 2), .int 0, .ref (b 3), .int 0]) (rest := []) ⟨hx, hb, hml, hown, hts⟩ (c_X12_copy l dC dI cy (b 2) (b 3) 3408 27264 ((upd (upd (upd (fun _ => 0) 3264 1) 0 1) 2 (-1))) ((fun _ => 0)) _ (by decide) (by decide)) (va_cwS 4 hts g_X12_remember_X12_copy_114 rfl rfl rfl (by decide +kernel) ⟨Nat.le_of_ble_eq_true rfl, Nat.le_of_ble_eq_true rfl⟩) (pS_ps hC hPc hDc) rfl rfl hl.1 rfl (lv_room (Nat.le_of_ble_eq_true rfl)) dX12_remember_95 ⟨Nat.le_of_ble_eq_true rfl, Nat.le_of_ble_eq_true rfl⟩) hS (fun q _ h => hFc q h) hFc (fun u t_ H1 locs ht hvm hw hB hz1 hk1 hS => ?_)
  obtain ⟨u1_, rfl⟩ : ∃ z, z = u := ⟨_, rfl⟩
  obtain ⟨hP1, hD1⟩ := hB
  rw [ht] at hP1
  obtain ⟨hP, hD⟩ := va_join (wr := [(b 0, .inr (12, [.int 0, .int 0, .ref (b 1), .ref (b 2), .ref (b 3), .ref (b 4), .int 0, .ref (b 5), .ref (b 6), .int 0, .int 0, .int 0, .int (-1), .int 0, .ref (b 7), .ref (b 20), .int 0, .ref (b 21), .ref (b 22), .int 0, .int 0, .ref (b 23), .int 0, .int 0, .int 0, .int 0, .ref (b 24), .ref (b 25), .ref (b 26), .int 0, .ref (b 27), .int 0, .ref (b 28), .ref (b 29), .ref (b 30), .ref (b 31), .ref (b 32), .ref (b 33), .ref (b 34), .int 0, .int 0, .int 0, .int 0, .int 0, .int 0, .ref (b 35), .ref (b 36), .ref (b 37), .int 0, .int 0, .int 0, .ref (b 38), .int 0, .int 0, .ref (b 39), .ref (b 40), .ref (b 41), .ref (b 42), .int 0])), (b 4, .inl (cy 0, 8, .inl (fun _ => 0)))]) (w1 := [(b 2, .inl (cy 0, 3408, .inl (upd (upd (upd (fun _ => 0) 3264 1) 0 1) 2 (-1)))), (b 3, .inl (cy 0, 27264, .inl (u1_.2.1 0)))]) hP hD [1, 2] [0, 3] rfl rfl (by decide) (by decide) hk1 hFc hP1 hD1
  generalize H1 = H at hP hS ⊢
  have hP : va_P (dC, dI) vwCl ([(b 0, .inr (12, [.int 0, .int 0, .ref (b 1), .ref (b 2), .ref (b 3), .ref (b 4), .int 0, .ref (b 5), .ref (b 6), .int 0, .int 0, .int 0, .int (-1), .int 0, .ref (b 7), .ref (b 20), .int 0, .ref (b 21), .ref (b 22), .int 0, .int 0, .ref (b 23), .int 0, .int 0, .int 0, .int 0, .ref (b 24), .ref (b 25), .ref (b 26), .int 0, .ref (b 27), .int 0, .ref (b 28), .ref (b 29), .ref (b 30), .ref (b 31), .ref (b 32), .ref (b 33), .ref (b 34), .int 0, .int 0, .int 0, .int 0, .int 0, .int 0, .ref (b 35), .ref (b 36), .ref (b 37), .int 0, .int 0, .int 0, .ref (b 38), .int 0, .int 0, .ref (b 39), .ref (b 40), .ref (b 41), .ref (b 42), .int 0])), (b 4, .inl (cy 0, 8, .inl (fun _ => 0))), (b 2, .inl (cy 0, 3408, .inl (upd (upd (upd (fun _ => 0) 3264 1) 0 1) 2 (-1)))), (b 3, .inl (cy 0, 27264, .inl (u1_.2.1 0)))]) H := hP
  have hD : va_D A ([(b 0, .inr (12, [.int 0, .int 0, .ref (b 1), .ref (b 2), .ref (b 3), .ref (b 4), .int 0, .ref (b 5), .ref (b 6), .int 0, .int 0, .int 0, .int (-1), .int 0, .ref (b 7), .ref (b 20), .int 0, .ref (b 21), .ref (b 22), .int 0, .int 0, .ref (b 23), .int 0, .int 0, .int 0, .int 0, .ref (b 24), .ref (b 25), .ref (b 26), .int 0, .ref (b 27), .int 0, .ref (b 28), .ref (b 29), .ref (b 30), .ref (b 31), .ref (b 32), .ref (b 33), .ref (b 34), .int 0, .int 0, .int 0, .int 0, .int 0, .int 0, .ref (b 35), .ref (b 36), .ref (b 37), .int 0, .int 0, .int 0, .ref (b 38), .int 0, .int 0, .ref (b 39), .ref (b 40), .ref (b 41), .ref (b 42), .int 0])), (b 4, .inl (cy 0, 8, .inl (fun _ => 0))), (b 2, .inl (cy 0, 3408, .inl (upd (upd (upd (fun _ => 0) 3264 1) 0 1) 2 (-1)))), (b 3, .inl (cy 0, 27264, .inl (u1_.2.1 0)))]) := hD
  refine lv_aload_n hx hb dX12_remember_98 rfl (lv_at hl 0 rfl) ?_
  refine va_get (D := (dC, dI)) (ci := 12) (v := .ref (b 4)) (C := RX12) (T := TX12) (N := 59) hx hb hts i_X12_remember_X12 hown hK hP 0 rfl rfl 5 (by decide) (hts _ m_X12_remember_3) (fun _ h9 => h9) rfl dX12_remember_99 ?_
  refine lv_aload_n hx hb dX12_remember_102 rfl (lv_at hl 0 rfl) ?_
  refine va_get (D := (dC, dI)) (ci := 12) (v := .int 0) (C := RX12) (T := TX12) (N := 59) hx hb hts i_X12_remember_X12 hown hK hP 0 rfl rfl 6 (by decide) (hts _ m_X12_remember_0) (fun _ h9 => h9) rfl dX12_remember_103 ?_
  refine lv_iload_n hx hb dX12_remember_106 rfl (lv_at hl 1 rfl) ?_
  refine va_iast hx hb hK hP hD hS 1 0 rfl rfl (show ¬ ((0 : Int32) < 0 ∨ 8 ≤ Int32.toNatClampNeg 0) by decide) dX12_remember_107 (fun H locs hP hD hS => ?_)
  refine lv_aload_n hx hb dX12_remember_108 rfl (lv_at hl 0 rfl) ?_
  refine lv_dup hx hb dX12_remember_109 rfl ?_
  refine va_get (D := (dC, dI)) (ci := 12) (v := .int 0) (C := RX12) (T := TX12) (N := 59) hx hb hts i_X12_remember_X12 hown hK hP 0 rfl rfl 6 (by decide) (hts _ m_X12_remember_0) (fun _ h9 => h9) rfl dX12_remember_110 ?_
  refine lv_iconst (v := 1) hx hb dX12_remember_113 (by decide) ?_
  refine lv_iadd hx hb dX12_remember_114 ?_
  refine tk_i 1 (by decide) ?_
  refine va_put (D := (dC, dI)) (ci := 12) (v := .int 1) (ty := .int) (C := RX12) (T := TX12) (N := 59) hx hb hts i_X12_remember_X12 tyX12 tyX12_ok nmX12 hown hK hP hD hS 0 rfl rfl 6 (by decide) (hts _ m_X12_remember_0) (fun _ h9 => h9) rfl (by decide +kernel) rfl rfl (Nat.le_of_ble_eq_true rfl) dX12_remember_115 (fun H locs hP hD hS => ?_)
  have hP9 := hP.sub (ws' := [(b 0, .inr (12, [.int 0, .int 0, .ref (b 1), .ref (b 2), .ref (b 3), .ref (b 4), .int 1, .ref (b 5), .ref (b 6), .int 0, .int 0, .int 0, .int (-1), .int 0, .ref (b 7), .ref (b 20), .int 0, .ref (b 21), .ref (b 22), .int 0, .int 0, .ref (b 23), .int 0, .int 0, .int 0, .int 0, .ref (b 24), .ref (b 25), .ref (b 26), .int 0, .ref (b 27), .int 0, .ref (b 28), .ref (b 29), .ref (b 30), .ref (b 31), .ref (b 32), .ref (b 33), .ref (b 34), .int 0, .int 0, .int 0, .int 0, .int 0, .int 0, .ref (b 35), .ref (b 36), .ref (b 37), .int 0, .int 0, .int 0, .ref (b 38), .int 0, .int 0, .ref (b 39), .ref (b 40), .ref (b 41), .ref (b 42), .int 0])), (b 2, .inl (cy 0, 3408, .inl (upd (upd (upd (fun _ => 0) 3264 1) 0 1) 2 (-1))))]) [0, 2] rfl
  have hD9 := hD.sub (ws' := [(b 0, .inr (12, [.int 0, .int 0, .ref (b 1), .ref (b 2), .ref (b 3), .ref (b 4), .int 1, .ref (b 5), .ref (b 6), .int 0, .int 0, .int 0, .int (-1), .int 0, .ref (b 7), .ref (b 20), .int 0, .ref (b 21), .ref (b 22), .int 0, .int 0, .ref (b 23), .int 0, .int 0, .int 0, .int 0, .ref (b 24), .ref (b 25), .ref (b 26), .int 0, .ref (b 27), .int 0, .ref (b 28), .ref (b 29), .ref (b 30), .ref (b 31), .ref (b 32), .ref (b 33), .ref (b 34), .int 0, .int 0, .int 0, .int 0, .int 0, .int 0, .ref (b 35), .ref (b 36), .ref (b 37), .int 0, .int 0, .int 0, .ref (b 38), .int 0, .int 0, .ref (b 39), .ref (b 40), .ref (b 41), .ref (b 42), .int 0])), (b 2, .inl (cy 0, 3408, .inl (upd (upd (upd (fun _ => 0) 3264 1) 0 1) 2 (-1))))]) [0, 2] (by decide) rfl
  exact W.vret hx hb hr (fun t ht hW => ⟨⟨((fun k => [].getD k 0, fun k => [].getD k (fun _ => 0), fun k => [].getD k (fun _ => none)) : uS), rfl, trivial, (by rw [ht]; exact hP9), hD9⟩, hS.F ht⟩) hS.2.2 dX12_remember_118

theorem dX12_raise_0 : decode cX12_raise 0 = .ok (.aload_n 0, 1) := by decide +kernel
theorem dX12_raise_1 : decode cX12_raise 1 = .ok (.iconst 0, 1) := by decide +kernel
theorem dX12_raise_2 : decode cX12_raise 2 = .ok (.putfield 105, 3) := by decide +kernel
theorem dX12_raise_5 : decode cX12_raise 5 = .ok (.iload_n 1, 1) := by decide +kernel
theorem dX12_raise_6 : decode cX12_raise 6 = .ok (.i2l, 1) := by decide +kernel
theorem dX12_raise_7 : decode cX12_raise 7 = .ok (.lconst 0, 1) := by decide +kernel
theorem dX12_raise_8 : decode cX12_raise 8 = .ok (.ldc2_w 460, 3) := by decide +kernel
theorem dX12_raise_11 : decode cX12_raise 11 = .ok (.invokestatic 128, 3) := by decide +kernel
theorem dX12_raise_14 : decode cX12_raise 14 = .ok (.ifCond .ne 9, 3) := by decide +kernel
theorem dX12_raise_17 : decode cX12_raise 17 = .ok (.aload_n 0, 1) := by decide +kernel
theorem dX12_raise_18 : decode cX12_raise 18 = .ok (.iconst (-1), 1) := by decide +kernel
theorem dX12_raise_19 : decode cX12_raise 19 = .ok (.invokevirtual 118, 3) := by decide +kernel
theorem dX12_raise_22 : decode cX12_raise 22 = .ok (.ireturn, 1) := by decide +kernel
theorem dX12_raise_23 : decode cX12_raise 23 = .ok (.aload_n 0, 1) := by decide +kernel
theorem dX12_raise_24 : decode cX12_raise 24 = .ok (.getfield 13, 3) := by decide +kernel
theorem dX12_raise_27 : decode cX12_raise 27 = .ok (.sipush 3307, 3) := by decide +kernel
theorem dX12_raise_30 : decode cX12_raise 30 = .ok (.iaload, 1) := by decide +kernel
theorem dX12_raise_31 : decode cX12_raise 31 = .ok (.iload_n 1, 1) := by decide +kernel
theorem dX12_raise_32 : decode cX12_raise 32 = .ok (.ishr, 1) := by decide +kernel
theorem dX12_raise_33 : decode cX12_raise 33 = .ok (.iconst 1, 1) := by decide +kernel
theorem dX12_raise_34 : decode cX12_raise 34 = .ok (.iand, 1) := by decide +kernel
theorem dX12_raise_35 : decode cX12_raise 35 = .ok (.iconst 1, 1) := by decide +kernel
theorem dX12_raise_36 : decode cX12_raise 36 = .ok (.if_icmp .ne 10, 3) := by decide +kernel
theorem dX12_raise_46 : decode cX12_raise 46 = .ok (.aload_n 0, 1) := by decide +kernel
theorem dX12_raise_47 : decode cX12_raise 47 = .ok (.bipush 7, 2) := by decide +kernel
theorem dX12_raise_49 : decode cX12_raise 49 = .ok (.invokevirtual 217, 3) := by decide +kernel
theorem dX12_raise_52 : decode cX12_raise 52 = .ok (.aload_n 0, 1) := by decide +kernel
theorem dX12_raise_53 : decode cX12_raise 53 = .ok (.iconst 0, 1) := by decide +kernel
theorem dX12_raise_54 : decode cX12_raise 54 = .ok (.putfield 397, 3) := by decide +kernel
theorem dX12_raise_57 : decode cX12_raise 57 = .ok (.aload_n 0, 1) := by decide +kernel
theorem dX12_raise_58 : decode cX12_raise 58 = .ok (.getfield 13, 3) := by decide +kernel
theorem dX12_raise_61 : decode cX12_raise 61 = .ok (.sipush 3307, 3) := by decide +kernel
theorem dX12_raise_64 : decode cX12_raise 64 = .ok (.dup2, 1) := by decide +kernel
theorem dX12_raise_65 : decode cX12_raise 65 = .ok (.iaload, 1) := by decide +kernel
theorem dX12_raise_66 : decode cX12_raise 66 = .ok (.iconst 1, 1) := by decide +kernel
theorem dX12_raise_67 : decode cX12_raise 67 = .ok (.iload_n 1, 1) := by decide +kernel
theorem dX12_raise_68 : decode cX12_raise 68 = .ok (.ishl, 1) := by decide +kernel
theorem dX12_raise_69 : decode cX12_raise 69 = .ok (.ior, 1) := by decide +kernel
theorem dX12_raise_70 : decode cX12_raise 70 = .ok (.iastore, 1) := by decide +kernel
theorem dX12_raise_71 : decode cX12_raise 71 = .ok (.iconst 0, 1) := by decide +kernel
theorem dX12_raise_72 : decode cX12_raise 72 = .ok (.istore_n 2, 1) := by decide +kernel
theorem dX12_raise_73 : decode cX12_raise 73 = .ok (.iconst 1, 1) := by decide +kernel
theorem dX12_raise_74 : decode cX12_raise 74 = .ok (.istore_n 3, 1) := by decide +kernel
theorem dX12_raise_75 : decode cX12_raise 75 = .ok (.iload_n 3, 1) := by decide +kernel
theorem dX12_raise_76 : decode cX12_raise 76 = .ok (.aload_n 0, 1) := by decide +kernel
theorem dX12_raise_77 : decode cX12_raise 77 = .ok (.getfield 13, 3) := by decide +kernel
theorem dX12_raise_80 : decode cX12_raise 80 = .ok (.sipush 3264, 3) := by decide +kernel
theorem dX12_raise_83 : decode cX12_raise 83 = .ok (.iaload, 1) := by decide +kernel
theorem dX12_raise_84 : decode cX12_raise 84 = .ok (.if_icmp .ge 26, 3) := by decide +kernel
theorem dX12_raise_110 : decode cX12_raise 110 = .ok (.iload_n 2, 1) := by decide +kernel
theorem dX12_raise_111 : decode cX12_raise 111 = .ok (.ifCond .le 18, 3) := by decide +kernel
theorem dX12_raise_129 : decode cX12_raise 129 = .ok (.iconst 1, 1) := by decide +kernel
theorem dX12_raise_130 : decode cX12_raise 130 = .ok (.istore_n 3, 1) := by decide +kernel
theorem dX12_raise_131 : decode cX12_raise 131 = .ok (.iload_n 3, 1) := by decide +kernel
theorem dX12_raise_132 : decode cX12_raise 132 = .ok (.aload_n 0, 1) := by decide +kernel
theorem dX12_raise_133 : decode cX12_raise 133 = .ok (.getfield 13, 3) := by decide +kernel
theorem dX12_raise_136 : decode cX12_raise 136 = .ok (.sipush 3264, 3) := by decide +kernel
theorem dX12_raise_139 : decode cX12_raise 139 = .ok (.iaload, 1) := by decide +kernel
theorem dX12_raise_140 : decode cX12_raise 140 = .ok (.if_icmp .ge 28, 3) := by decide +kernel
theorem dX12_raise_168 : decode cX12_raise 168 = .ok (.aload_n 0, 1) := by decide +kernel
theorem dX12_raise_169 : decode cX12_raise 169 = .ok (.iload_n 2, 1) := by decide +kernel
theorem dX12_raise_170 : decode cX12_raise 170 = .ok (.invokevirtual 122, 3) := by decide +kernel
theorem dX12_raise_173 : decode cX12_raise 173 = .ok (.ireturn, 1) := by decide +kernel
def v_X12_raise : List Cond := .code yX12_raise cX12_raise 4 (some .int) :: ([.fieldLink RX12 105 "RestBoardModel" "thrown" "I", .constantLong RX12 460 (7), .fieldLink RX12 13 "RestBoardModel" "row" "[I", .fieldLink RX12 397 "RestBoardModel" "latestSteps" "I", .methodLink RX12 128 yX12_in, .static yX12_in, .initialized RX12, .code yX12_in cX12_in 6 (some .boolean), .methodLink RX12 118 yX12_refuse, .instanceMethod yX12_refuse, .selects RX12 yX12_refuse yX12_refuse, .code yX12_refuse cX12_refuse 2 (some .int), .fieldLink RX12 108 "RestBoardModel" "status" "I", .fieldLink RX12 7 "RestBoardModel" "refusals" "[I", .methodLink RX12 217 yX12_remember, .instanceMethod yX12_remember, .selects RX12 yX12_remember yX12_remember, .code yX12_remember cX12_remember 3 none, .fieldLink RX12 111 "RestBoardModel" "nUndo" "I", .fieldLink RX12 16 "RestBoardModel" "undos" "[I", .fieldLink RX12 19 "RestBoardModel" "sorts" "[I", .methodLink RX12 114 yX12_copy, .static yX12_copy, .code yX12_copy cX12_copy 5 none, .methodLink RX12 122 yX12_tell, .instanceMethod yX12_tell, .selects RX12 yX12_tell yX12_tell, .code yX12_tell cX12_tell 2 (some .int)] ++ wsX120)
theorem m_X12_raise_0 : (.fieldLink RX12 105 "RestBoardModel" "thrown" "I" : Cond) ∈ v_X12_raise := List.mem_of_getElem? (i := 1) (by decide +kernel)
theorem m_X12_raise_1 : (.constantLong RX12 460 (7) : Cond) ∈ v_X12_raise := List.mem_of_getElem? (i := 2) (by decide +kernel)
theorem m_X12_raise_2 : (.fieldLink RX12 13 "RestBoardModel" "row" "[I" : Cond) ∈ v_X12_raise := List.mem_of_getElem? (i := 3) (by decide +kernel)
theorem m_X12_raise_3 : (.fieldLink RX12 397 "RestBoardModel" "latestSteps" "I" : Cond) ∈ v_X12_raise := List.mem_of_getElem? (i := 4) (by decide +kernel)
theorem i_X12_raise_X12 : ∀ w ∈ u_ws RX12 TX12 59, w ∈ v_X12_raise := fun w h => List.mem_cons_of_mem _ (List.mem_append_right _ h)
set_option maxRecDepth 100000 in
theorem gg_X12_raise_X12_in_128 : GoodIn v_X12_raise v_X12_in := goodIn_r _ [8] (by decide +kernel) (by decide +kernel)
set_option maxRecDepth 100000 in
theorem g_X12_raise_X12_in_128 : GoodIn v_X12_raise (va_wsS RX12 128 yX12_in v_X12_in) := goodIn_app (goodIn_r _ [5, 6, 7] (by decide +kernel) (by decide +kernel)) gg_X12_raise_X12_in_128
set_option maxRecDepth 100000 in
theorem gg_X12_raise_X12_refuse_118 : GoodIn v_X12_raise v_X12_refuse := goodIn_r _ [12, 13, 14, 29, 30, 31, 32, 33, 34, 35, 36, 37, 38, 39, 40, 41, 42, 43, 44, 45, 46, 47, 48, 49, 50, 51, 52, 53, 54, 55, 56, 57, 58, 59, 60, 61, 62, 63, 64, 65, 66, 67, 68, 69, 70, 71, 72, 73, 74, 75, 76, 77, 78, 79, 80, 81, 82, 83, 84, 85, 86, 87] (by decide +kernel) (by decide +kernel)
set_option maxRecDepth 100000 in
theorem g_X12_raise_X12_refuse_118 : GoodIn v_X12_raise (wsV RX12 118 RX12 yX12_refuse v_X12_refuse) := goodIn_app (goodIn_r _ [9, 10, 11, 7] (by decide +kernel) (by decide +kernel)) gg_X12_raise_X12_refuse_118
set_option maxRecDepth 100000 in
theorem gg_X12_raise_X12_remember_217 : GoodIn v_X12_raise v_X12_remember := goodIn_r _ [18, 19, 3, 20, 21, 22, 23, 7, 24, 29, 30, 31, 32, 33, 34, 35, 36, 37, 38, 39, 40, 41, 42, 43, 44, 45, 46, 47, 48, 49, 50, 51, 52, 53, 54, 55, 56, 57, 58, 59, 60, 61, 62, 63, 64, 65, 66, 67, 68, 69, 70, 71, 72, 73, 74, 75, 76, 77, 78, 79, 80, 81, 82, 83, 84, 85, 86, 87] (by decide +kernel) (by decide +kernel)
set_option maxRecDepth 100000 in
theorem g_X12_raise_X12_remember_217 : GoodIn v_X12_raise (wsV RX12 217 RX12 yX12_remember v_X12_remember) := goodIn_app (goodIn_r _ [15, 16, 17, 7] (by decide +kernel) (by decide +kernel)) gg_X12_raise_X12_remember_217
set_option maxRecDepth 100000 in
theorem gg_X12_raise_X12_tell_122 : GoodIn v_X12_raise v_X12_tell := goodIn_r _ [28, 13, 29, 30, 31, 32, 33, 34, 35, 36, 37, 38, 39, 40, 41, 42, 43, 44, 45, 46, 47, 48, 49, 50, 51, 52, 53, 54, 55, 56, 57, 58, 59, 60, 61, 62, 63, 64, 65, 66, 67, 68, 69, 70, 71, 72, 73, 74, 75, 76, 77, 78, 79, 80, 81, 82, 83, 84, 85, 86, 87] (by decide +kernel) (by decide +kernel)
set_option maxRecDepth 100000 in
theorem g_X12_raise_X12_tell_122 : GoodIn v_X12_raise (wsV RX12 122 RX12 yX12_tell v_X12_tell) := goodIn_app (goodIn_r _ [25, 26, 27, 7] (by decide +kernel) (by decide +kernel)) gg_X12_raise_X12_tell_122
set_option maxHeartbeats 4000000 in
set_option maxRecDepth 100000 in
theorem c_X12_raise (l : Launch) (dC : Nat → ClassId) (dI : Nat → Nat → Nat) (cy : Nat → ClassId) (b : Nat → Nat) (sz : Nat) (p0 : Int32) : Met l yX12_raise v_X12_raise ({ frames := 2, cells := 0, slots := 0, locals := 46 }) (va_Pc [.ref (b 0), .int p0] (ps dC dI cy (mw b cy) sz)) (va_Qi (fun (r : Int32) (_ : Unit) => ((p0 < 0) ∧ r = (-1)) ∨ ((¬ p0 < 0) ∧ ((7 : Int32) < p0) ∧ r = (-1)) ∨ ((¬ p0 < 0) ∧ (¬ (7 : Int32) < p0) ∧ r = 0)) (fun _ _ => True) (va_A (mw b cy) sz)) 0 0 (va_A (mw b cy) sz) := by
  refine Met.ofW (cc := cX12_raise) (maxL := 4) (ret := (some .int)) (by decide) rfl ?_
  intro p e s m args below meth c s₁ B hml hv
  obtain ⟨rfl, hsz, hP, hC, hD0⟩ := hv
  have hK := hC.1
  have hx := B.exec
  have hb := B.bytes
  have hr := B.returns
  have hts := atoms_spec (ws := v_X12_raise) B.pre
  have hown : s.vm.findClass RX12 = some m.cls := findClass_of_methodNamed B.named
  have hlocks := B.notSynchronized
  subst hsz
  have hD := hD0.self (sz := s.heap.size)
  generalize hAe : va_A (mw b cy) s.heap.size = A at hD ⊢
  have hA : ∀ q : Nat, s.heap.size ≤ q → A q := fun q h => by rw [← hAe]; exact Or.inr h
  have hS : va_S A s.heap s.heap [] := va_S.rf
  have hl := lv_entry ([.ref (b 0), .int p0]) (n := 4) (Nat.le_of_ble_eq_true rfl)
  rw [lg_entry_eq]
  generalize (lg_sl ([.ref (b 0), .int p0]) ++ List.replicate (4 - (lg_sl ([.ref (b 0), .int p0])).length) Slot.unset).toArray = ls at hl ⊢
  have hl : lv_has ls 4 [(0, .ref (b 0)), (1, .int p0)] := hl
  refine lv_aload_n hx hb dX12_raise_0 rfl (lv_at hl 0 rfl) ?_
  refine lv_iconst (v := 0) hx hb dX12_raise_1 (by decide) ?_
  refine va_put (D := (dC, dI)) (ci := 12) (v := .int 0) (ty := .int) (C := RX12) (T := TX12) (N := 59) hx hb hts i_X12_raise_X12 tyX12 tyX12_ok nmX12 hown hK hP hD hS 0 rfl rfl 0 (by decide) (hts _ m_X12_raise_0) (fun _ h9 => h9) rfl (by decide +kernel) rfl rfl (Nat.le_of_ble_eq_true rfl) dX12_raise_2 (fun H locs hP hD hS => ?_)
  have hP : va_P (dC, dI) vwCl (mw b cy) H := hP
  have hD : va_D A (mw b cy) := hD
  refine lv_iload_n hx hb dX12_raise_5 rfl (lv_at hl 1 rfl) ?_
  refine lv_i2l (v := Int32.toInt64 p0) hx hb dX12_raise_6 rfl ?_
  refine lv_lconst (v := 0) hx hb dX12_raise_7 (by decide) ?_
  refine tk_l (Int32.toInt64 0) (by decide) ?_
  refine lv_ldc2 (v := 7) hx hb hown (hts _ m_X12_raise_1) dX12_raise_8 ?_
  refine tk_l (Int32.toInt64 7) (by decide) ?_
  refine tk_pi (va_runS (As := [.long (Int32.toInt64 p0), .long (Int32.toInt64 0), .long (Int32.toInt64 7)]) (rest := []) ⟨hx, hb, hml, hown, hts⟩ (c_X12_in l dC dI cy  p0 0 7) (va_cwS 3 hts g_X12_raise_X12_in_128 rfl rfl rfl (by decide +kernel) ⟨Nat.le_of_ble_eq_true rfl, Nat.le_of_ble_eq_true rfl⟩) (pS_pp hC va_P0) rfl rfl hl.1 rfl (lv_room (Nat.le_of_ble_eq_true rfl)) dX12_raise_11 ⟨Nat.le_of_ble_eq_true rfl, Nat.le_of_ble_eq_true rfl⟩) hP hS (fun r_ H locs hw hP hS => ?_)
  rcases hw with ⟨c1_, rfl⟩ | ⟨c2_, c3_, rfl⟩ | ⟨c4_, c5_, rfl⟩
  · skip
    refine lv_if_ne (tgt := 23) hx hb dX12_raise_14 (by decide) (fun c9_ => absurd (by decide) c9_) (fun _ => ?_)
    refine lv_aload_n hx hb dX12_raise_17 rfl (lv_at hl 0 rfl) ?_
    refine lv_iconst (v := (-1)) hx hb dX12_raise_18 (by decide) ?_
    have hPc : va_P (dC, dI) vwCl ([(b 0, .inr (12, [.int 0, .int 0, .ref (b 1), .ref (b 2), .ref (b 3), .ref (b 4), .int 0, .ref (b 5), .ref (b 6), .int 0, .int 0, .int 0, .int (-1), .int 0, .ref (b 7), .ref (b 20), .int 0, .ref (b 21), .ref (b 22), .int 0, .int 0, .ref (b 23), .int 0, .int 0, .int 0, .int 0, .ref (b 24), .ref (b 25), .ref (b 26), .int 0, .ref (b 27), .int 0, .ref (b 28), .ref (b 29), .ref (b 30), .ref (b 31), .ref (b 32), .ref (b 33), .ref (b 34), .int 0, .int 0, .int 0, .int 0, .int 0, .int 0, .ref (b 35), .ref (b 36), .ref (b 37), .int 0, .int 0, .int 0, .ref (b 38), .int 0, .int 0, .ref (b 39), .ref (b 40), .ref (b 41), .ref (b 42), .int 0])), (b 1, .inl (cy 0, 8, .inl (fun _ => 0)))]) _ := hP.sub [0, 1] rfl
    have hDc := hD.sub (ws' := [(b 0, .inr (12, [.int 0, .int 0, .ref (b 1), .ref (b 2), .ref (b 3), .ref (b 4), .int 0, .ref (b 5), .ref (b 6), .int 0, .int 0, .int 0, .int (-1), .int 0, .ref (b 7), .ref (b 20), .int 0, .ref (b 21), .ref (b 22), .int 0, .int 0, .ref (b 23), .int 0, .int 0, .int 0, .int 0, .ref (b 24), .ref (b 25), .ref (b 26), .int 0, .ref (b 27), .int 0, .ref (b 28), .ref (b 29), .ref (b 30), .ref (b 31), .ref (b 32), .ref (b 33), .ref (b 34), .int 0, .int 0, .int 0, .int 0, .int 0, .int 0, .ref (b 35), .ref (b 36), .ref (b 37), .int 0, .int 0, .int 0, .ref (b 38), .int 0, .int 0, .ref (b 39), .ref (b 40), .ref (b 41), .ref (b 42), .int 0])), (b 1, .inl (cy 0, 8, .inl (fun _ => 0)))]) [0, 1] (by decide) rfl
    have hFc := va_free (wc := [(b 0, .inr (12, [.int 0, .int 0, .ref (b 1), .ref (b 2), .ref (b 3), .ref (b 4), .int 0, .ref (b 5), .ref (b 6), .int 0, .int 0, .int 0, .int (-1), .int 0, .ref (b 7), .ref (b 20), .int 0, .ref (b 21), .ref (b 22), .int 0, .int 0, .ref (b 23), .int 0, .int 0, .int 0, .int 0, .ref (b 24), .ref (b 25), .ref (b 26), .int 0, .ref (b 27), .int 0, .ref (b 28), .ref (b 29), .ref (b 30), .ref (b 31), .ref (b 32), .ref (b 33), .ref (b 34), .int 0, .int 0, .int 0, .int 0, .int 0, .int 0, .ref (b 35), .ref (b 36), .ref (b 37), .int 0, .int 0, .int 0, .ref (b 38), .int 0, .int 0, .ref (b 39), .ref (b 40), .ref (b 41), .ref (b 42), .int 0])), (b 1, .inl (cy 0, 8, .inl (fun _ => 0)))]) hD hS hA [0, 1] rfl
    refine va_calli (va_runV (As := [.int (-1)]) (rest := []) ⟨hx, hb, hml, hown, hts⟩ (c_X12_refuse_1 l dC dI cy b _ 0 (-1) 0 0 0 0 0 0 0) (cwV 1 hts g_X12_raise_X12_refuse_118 rfl rfl rfl (by decide +kernel) ⟨Nat.le_of_ble_eq_true rfl, Nat.le_of_ble_eq_true rfl⟩) (pv_ps hC hPc hDc (ci := 12) (q0 := 0) rfl rfl) rfl rfl hl.1 rfl (lv_room (Nat.le_of_ble_eq_true rfl)) dX12_raise_19 ⟨Nat.le_of_ble_eq_true rfl, Nat.le_of_ble_eq_true rfl⟩) hS (fun q _ h => hFc q h) hFc (fun r_ u t_ H1 locs ht hvm hw hB hz1 hk1 hS => ?_)
    obtain ⟨hP, hD⟩ := va_join (wr := []) (w1 := []) hP hD [0, 1] [] rfl rfl (by decide) (by decide) hk1 hFc va_P0 va_D0
    generalize H1 = H at hP hS ⊢
    have hP : va_P (dC, dI) vwCl ([]) H := hP
    have hD : va_D A ([]) := hD
    subst hw
    exact W.iret (v := (-1)) hx hb hr (fun t ht hW => ⟨⟨(-1), (), rfl, Or.inl (⟨c1_, rfl⟩), trivial⟩, hS.F ht⟩) hS.2.2 dX12_raise_22
  · skip
    refine lv_if_ne (tgt := 23) hx hb dX12_raise_14 (by decide) (fun c9_ => absurd (by decide) c9_) (fun _ => ?_)
    refine lv_aload_n hx hb dX12_raise_17 rfl (lv_at hl 0 rfl) ?_
    refine lv_iconst (v := (-1)) hx hb dX12_raise_18 (by decide) ?_
    have hPc : va_P (dC, dI) vwCl ([(b 0, .inr (12, [.int 0, .int 0, .ref (b 1), .ref (b 2), .ref (b 3), .ref (b 4), .int 0, .ref (b 5), .ref (b 6), .int 0, .int 0, .int 0, .int (-1), .int 0, .ref (b 7), .ref (b 20), .int 0, .ref (b 21), .ref (b 22), .int 0, .int 0, .ref (b 23), .int 0, .int 0, .int 0, .int 0, .ref (b 24), .ref (b 25), .ref (b 26), .int 0, .ref (b 27), .int 0, .ref (b 28), .ref (b 29), .ref (b 30), .ref (b 31), .ref (b 32), .ref (b 33), .ref (b 34), .int 0, .int 0, .int 0, .int 0, .int 0, .int 0, .ref (b 35), .ref (b 36), .ref (b 37), .int 0, .int 0, .int 0, .ref (b 38), .int 0, .int 0, .ref (b 39), .ref (b 40), .ref (b 41), .ref (b 42), .int 0])), (b 1, .inl (cy 0, 8, .inl (fun _ => 0)))]) _ := hP.sub [0, 1] rfl
    have hDc := hD.sub (ws' := [(b 0, .inr (12, [.int 0, .int 0, .ref (b 1), .ref (b 2), .ref (b 3), .ref (b 4), .int 0, .ref (b 5), .ref (b 6), .int 0, .int 0, .int 0, .int (-1), .int 0, .ref (b 7), .ref (b 20), .int 0, .ref (b 21), .ref (b 22), .int 0, .int 0, .ref (b 23), .int 0, .int 0, .int 0, .int 0, .ref (b 24), .ref (b 25), .ref (b 26), .int 0, .ref (b 27), .int 0, .ref (b 28), .ref (b 29), .ref (b 30), .ref (b 31), .ref (b 32), .ref (b 33), .ref (b 34), .int 0, .int 0, .int 0, .int 0, .int 0, .int 0, .ref (b 35), .ref (b 36), .ref (b 37), .int 0, .int 0, .int 0, .ref (b 38), .int 0, .int 0, .ref (b 39), .ref (b 40), .ref (b 41), .ref (b 42), .int 0])), (b 1, .inl (cy 0, 8, .inl (fun _ => 0)))]) [0, 1] (by decide) rfl
    have hFc := va_free (wc := [(b 0, .inr (12, [.int 0, .int 0, .ref (b 1), .ref (b 2), .ref (b 3), .ref (b 4), .int 0, .ref (b 5), .ref (b 6), .int 0, .int 0, .int 0, .int (-1), .int 0, .ref (b 7), .ref (b 20), .int 0, .ref (b 21), .ref (b 22), .int 0, .int 0, .ref (b 23), .int 0, .int 0, .int 0, .int 0, .ref (b 24), .ref (b 25), .ref (b 26), .int 0, .ref (b 27), .int 0, .ref (b 28), .ref (b 29), .ref (b 30), .ref (b 31), .ref (b 32), .ref (b 33), .ref (b 34), .int 0, .int 0, .int 0, .int 0, .int 0, .int 0, .ref (b 35), .ref (b 36), .ref (b 37), .int 0, .int 0, .int 0, .ref (b 38), .int 0, .int 0, .ref (b 39), .ref (b 40), .ref (b 41), .ref (b 42), .int 0])), (b 1, .inl (cy 0, 8, .inl (fun _ => 0)))]) hD hS hA [0, 1] rfl
    refine va_calli (va_runV (As := [.int (-1)]) (rest := []) ⟨hx, hb, hml, hown, hts⟩ (c_X12_refuse_1 l dC dI cy b _ 0 (-1) 0 0 0 0 0 0 0) (cwV 1 hts g_X12_raise_X12_refuse_118 rfl rfl rfl (by decide +kernel) ⟨Nat.le_of_ble_eq_true rfl, Nat.le_of_ble_eq_true rfl⟩) (pv_ps hC hPc hDc (ci := 12) (q0 := 0) rfl rfl) rfl rfl hl.1 rfl (lv_room (Nat.le_of_ble_eq_true rfl)) dX12_raise_19 ⟨Nat.le_of_ble_eq_true rfl, Nat.le_of_ble_eq_true rfl⟩) hS (fun q _ h => hFc q h) hFc (fun r_ u t_ H1 locs ht hvm hw hB hz1 hk1 hS => ?_)
    obtain ⟨hP, hD⟩ := va_join (wr := []) (w1 := []) hP hD [0, 1] [] rfl rfl (by decide) (by decide) hk1 hFc va_P0 va_D0
    generalize H1 = H at hP hS ⊢
    have hP : va_P (dC, dI) vwCl ([]) H := hP
    have hD : va_D A ([]) := hD
    subst hw
    exact W.iret (v := (-1)) hx hb hr (fun t ht hW => ⟨⟨(-1), (), rfl, Or.inr (Or.inl (⟨c2_, c3_, rfl⟩)), trivial⟩, hS.F ht⟩) hS.2.2 dX12_raise_22
  · skip
    refine lv_if_ne (tgt := 23) hx hb dX12_raise_14 (by decide) (fun _ => ?_) (fun c9_ => absurd c9_ (by decide))
    refine lv_aload_n hx hb dX12_raise_23 rfl (lv_at hl 0 rfl) ?_
    refine va_get (D := (dC, dI)) (ci := 12) (v := .ref (b 2)) (C := RX12) (T := TX12) (N := 59) hx hb hts i_X12_raise_X12 hown hK hP 0 rfl rfl 3 (by decide) (hts _ m_X12_raise_2) (fun _ h9 => h9) rfl dX12_raise_24 ?_
    refine lv_sipush (v := 3307) hx hb dX12_raise_27 (by decide) ?_
    refine va_iald hx hb hK hP 2 0 rfl rfl (show ¬ ((3307 : Int32) < 0 ∨ 3408 ≤ Int32.toNatClampNeg 3307) by decide) dX12_raise_30 ?_
    refine tk_i 0 (by rfl) ?_
    refine lv_iload_n hx hb dX12_raise_31 rfl (lv_at hl 1 rfl) ?_
    refine lv_ishr hx hb dX12_raise_32 ?_
    refine tk_i 0 (sh_0 _) ?_
    refine lv_iconst (v := 1) hx hb dX12_raise_33 (by decide) ?_
    refine lv_iand hx hb dX12_raise_34 ?_
    refine tk_i 0 (by decide) ?_
    refine lv_iconst (v := 1) hx hb dX12_raise_35 (by decide) ?_
    refine lv_icmp_ne (tgt := 46) hx hb dX12_raise_36 (by decide) (fun _ => ?_) (fun c9_ => absurd c9_ (by decide))
    refine lv_aload_n hx hb dX12_raise_46 rfl (lv_at hl 0 rfl) ?_
    refine lv_bipush (v := 7) hx hb dX12_raise_47 (by decide) ?_
    have hP := hP.sub (ws' := [(b 0, .inr (12, [.int 0, .int 0, .ref (b 1), .ref (b 2), .ref (b 3), .ref (b 4), .int 0, .ref (b 5), .ref (b 6), .int 0, .int 0, .int 0, .int (-1), .int 0, .ref (b 7), .ref (b 20), .int 0, .ref (b 21), .ref (b 22), .int 0, .int 0, .ref (b 23), .int 0, .int 0, .int 0, .int 0, .ref (b 24), .ref (b 25), .ref (b 26), .int 0, .ref (b 27), .int 0, .ref (b 28), .ref (b 29), .ref (b 30), .ref (b 31), .ref (b 32), .ref (b 33), .ref (b 34), .int 0, .int 0, .int 0, .int 0, .int 0, .int 0, .ref (b 35), .ref (b 36), .ref (b 37), .int 0, .int 0, .int 0, .ref (b 38), .int 0, .int 0, .ref (b 39), .ref (b 40), .ref (b 41), .ref (b 42), .int 0])), (b 2, .inl (cy 0, 3408, .inl (upd (upd (upd (fun _ => 0) 3264 1) 0 1) 2 (-1)))), (b 3, .inl (cy 0, 27264, .inl (fun _ => 0))), (b 4, .inl (cy 0, 8, .inl (fun _ => 0)))]) [0, 2, 3, 4] rfl
    have hD := hD.sub (ws' := [(b 0, .inr (12, [.int 0, .int 0, .ref (b 1), .ref (b 2), .ref (b 3), .ref (b 4), .int 0, .ref (b 5), .ref (b 6), .int 0, .int 0, .int 0, .int (-1), .int 0, .ref (b 7), .ref (b 20), .int 0, .ref (b 21), .ref (b 22), .int 0, .int 0, .ref (b 23), .int 0, .int 0, .int 0, .int 0, .ref (b 24), .ref (b 25), .ref (b 26), .int 0, .ref (b 27), .int 0, .ref (b 28), .ref (b 29), .ref (b 30), .ref (b 31), .ref (b 32), .ref (b 33), .ref (b 34), .int 0, .int 0, .int 0, .int 0, .int 0, .int 0, .ref (b 35), .ref (b 36), .ref (b 37), .int 0, .int 0, .int 0, .ref (b 38), .int 0, .int 0, .ref (b 39), .ref (b 40), .ref (b 41), .ref (b 42), .int 0])), (b 2, .inl (cy 0, 3408, .inl (upd (upd (upd (fun _ => 0) 3264 1) 0 1) 2 (-1)))), (b 3, .inl (cy 0, 27264, .inl (fun _ => 0))), (b 4, .inl (cy 0, 8, .inl (fun _ => 0)))]) [0, 2, 3, 4] (by decide) rfl
    have hPc : va_P (dC, dI) vwCl ([(b 0, .inr (12, [.int 0, .int 0, .ref (b 1), .ref (b 2), .ref (b 3), .ref (b 4), .int 0, .ref (b 5), .ref (b 6), .int 0, .int 0, .int 0, .int (-1), .int 0, .ref (b 7), .ref (b 20), .int 0, .ref (b 21), .ref (b 22), .int 0, .int 0, .ref (b 23), .int 0, .int 0, .int 0, .int 0, .ref (b 24), .ref (b 25), .ref (b 26), .int 0, .ref (b 27), .int 0, .ref (b 28), .ref (b 29), .ref (b 30), .ref (b 31), .ref (b 32), .ref (b 33), .ref (b 34), .int 0, .int 0, .int 0, .int 0, .int 0, .int 0, .ref (b 35), .ref (b 36), .ref (b 37), .int 0, .int 0, .int 0, .ref (b 38), .int 0, .int 0, .ref (b 39), .ref (b 40), .ref (b 41), .ref (b 42), .int 0])), (b 2, .inl (cy 0, 3408, .inl (upd (upd (upd (fun _ => 0) 3264 1) 0 1) 2 (-1)))), (b 3, .inl (cy 0, 27264, .inl (fun _ => 0))), (b 4, .inl (cy 0, 8, .inl (fun _ => 0)))]) _ := hP.sub [0, 1, 2, 3] rfl
    have hDc := hD.sub (ws' := [(b 0, .inr (12, [.int 0, .int 0, .ref (b 1), .ref (b 2), .ref (b 3), .ref (b 4), .int 0, .ref (b 5), .ref (b 6), .int 0, .int 0, .int 0, .int (-1), .int 0, .ref (b 7), .ref (b 20), .int 0, .ref (b 21), .ref (b 22), .int 0, .int 0, .ref (b 23), .int 0, .int 0, .int 0, .int 0, .ref (b 24), .ref (b 25), .ref (b 26), .int 0, .ref (b 27), .int 0, .ref (b 28), .ref (b 29), .ref (b 30), .ref (b 31), .ref (b 32), .ref (b 33), .ref (b 34), .int 0, .int 0, .int 0, .int 0, .int 0, .int 0, .ref (b 35), .ref (b 36), .ref (b 37), .int 0, .int 0, .int 0, .ref (b 38), .int 0, .int 0, .ref (b 39), .ref (b 40), .ref (b 41), .ref (b 42), .int 0])), (b 2, .inl (cy 0, 3408, .inl (upd (upd (upd (fun _ => 0) 3264 1) 0 1) 2 (-1)))), (b 3, .inl (cy 0, 27264, .inl (fun _ => 0))), (b 4, .inl (cy 0, 8, .inl (fun _ => 0)))]) [0, 1, 2, 3] (by decide) rfl
    have hFc := va_free (wc := [(b 0, .inr (12, [.int 0, .int 0, .ref (b 1), .ref (b 2), .ref (b 3), .ref (b 4), .int 0, .ref (b 5), .ref (b 6), .int 0, .int 0, .int 0, .int (-1), .int 0, .ref (b 7), .ref (b 20), .int 0, .ref (b 21), .ref (b 22), .int 0, .int 0, .ref (b 23), .int 0, .int 0, .int 0, .int 0, .ref (b 24), .ref (b 25), .ref (b 26), .int 0, .ref (b 27), .int 0, .ref (b 28), .ref (b 29), .ref (b 30), .ref (b 31), .ref (b 32), .ref (b 33), .ref (b 34), .int 0, .int 0, .int 0, .int 0, .int 0, .int 0, .ref (b 35), .ref (b 36), .ref (b 37), .int 0, .int 0, .int 0, .ref (b 38), .int 0, .int 0, .ref (b 39), .ref (b 40), .ref (b 41), .ref (b 42), .int 0])), (b 2, .inl (cy 0, 3408, .inl (upd (upd (upd (fun _ => 0) 3264 1) 0 1) 2 (-1)))), (b 3, .inl (cy 0, 27264, .inl (fun _ => 0))), (b 4, .inl (cy 0, 8, .inl (fun _ => 0)))]) hD hS hA [0, 1, 2, 3] rfl
    refine va_callv (va_runV (As := [.int 7]) (rest := []) ⟨hx, hb, hml, hown, hts⟩ (c_X12_remember l dC dI cy b _) (cwV 1 hts g_X12_raise_X12_remember_217 rfl rfl rfl (by decide +kernel) ⟨Nat.le_of_ble_eq_true rfl, Nat.le_of_ble_eq_true rfl⟩) (pv_ps hC hPc hDc (ci := 12) (q0 := 0) rfl rfl) rfl rfl hl.1 rfl (lv_room (Nat.le_of_ble_eq_true rfl)) dX12_raise_49 ⟨Nat.le_of_ble_eq_true rfl, Nat.le_of_ble_eq_true rfl⟩) hS (fun q _ h => hFc q h) hFc (fun u t_ H1 locs ht hvm hw hB hz1 hk1 hS => ?_)
    obtain ⟨u6_, rfl⟩ : ∃ z, z = u := ⟨_, rfl⟩
    obtain ⟨hP1, hD1⟩ := hB
    rw [ht] at hP1
    obtain ⟨hP, hD⟩ := va_join (wr := []) (w1 := [(b 0, .inr (12, [.int 0, .int 0, .ref (b 1), .ref (b 2), .ref (b 3), .ref (b 4), .int 1, .ref (b 5), .ref (b 6), .int 0, .int 0, .int 0, .int (-1), .int 0, .ref (b 7), .ref (b 20), .int 0, .ref (b 21), .ref (b 22), .int 0, .int 0, .ref (b 23), .int 0, .int 0, .int 0, .int 0, .ref (b 24), .ref (b 25), .ref (b 26), .int 0, .ref (b 27), .int 0, .ref (b 28), .ref (b 29), .ref (b 30), .ref (b 31), .ref (b 32), .ref (b 33), .ref (b 34), .int 0, .int 0, .int 0, .int 0, .int 0, .int 0, .ref (b 35), .ref (b 36), .ref (b 37), .int 0, .int 0, .int 0, .ref (b 38), .int 0, .int 0, .ref (b 39), .ref (b 40), .ref (b 41), .ref (b 42), .int 0])), (b 2, .inl (cy 0, 3408, .inl (upd (upd (upd (fun _ => 0) 3264 1) 0 1) 2 (-1))))]) hP hD [0, 1, 2, 3] [] rfl rfl (by decide) (by decide) hk1 hFc hP1 hD1
    generalize H1 = H at hP hS ⊢
    have hP : va_P (dC, dI) vwCl ([(b 0, .inr (12, [.int 0, .int 0, .ref (b 1), .ref (b 2), .ref (b 3), .ref (b 4), .int 1, .ref (b 5), .ref (b 6), .int 0, .int 0, .int 0, .int (-1), .int 0, .ref (b 7), .ref (b 20), .int 0, .ref (b 21), .ref (b 22), .int 0, .int 0, .ref (b 23), .int 0, .int 0, .int 0, .int 0, .ref (b 24), .ref (b 25), .ref (b 26), .int 0, .ref (b 27), .int 0, .ref (b 28), .ref (b 29), .ref (b 30), .ref (b 31), .ref (b 32), .ref (b 33), .ref (b 34), .int 0, .int 0, .int 0, .int 0, .int 0, .int 0, .ref (b 35), .ref (b 36), .ref (b 37), .int 0, .int 0, .int 0, .ref (b 38), .int 0, .int 0, .ref (b 39), .ref (b 40), .ref (b 41), .ref (b 42), .int 0])), (b 2, .inl (cy 0, 3408, .inl (upd (upd (upd (fun _ => 0) 3264 1) 0 1) 2 (-1))))]) H := hP
    have hD : va_D A ([(b 0, .inr (12, [.int 0, .int 0, .ref (b 1), .ref (b 2), .ref (b 3), .ref (b 4), .int 1, .ref (b 5), .ref (b 6), .int 0, .int 0, .int 0, .int (-1), .int 0, .ref (b 7), .ref (b 20), .int 0, .ref (b 21), .ref (b 22), .int 0, .int 0, .ref (b 23), .int 0, .int 0, .int 0, .int 0, .ref (b 24), .ref (b 25), .ref (b 26), .int 0, .ref (b 27), .int 0, .ref (b 28), .ref (b 29), .ref (b 30), .ref (b 31), .ref (b 32), .ref (b 33), .ref (b 34), .int 0, .int 0, .int 0, .int 0, .int 0, .int 0, .ref (b 35), .ref (b 36), .ref (b 37), .int 0, .int 0, .int 0, .ref (b 38), .int 0, .int 0, .ref (b 39), .ref (b 40), .ref (b 41), .ref (b 42), .int 0])), (b 2, .inl (cy 0, 3408, .inl (upd (upd (upd (fun _ => 0) 3264 1) 0 1) 2 (-1))))]) := hD
    refine lv_aload_n hx hb dX12_raise_52 rfl (lv_at hl 0 rfl) ?_
    refine lv_iconst (v := 0) hx hb dX12_raise_53 (by decide) ?_
    refine va_put (D := (dC, dI)) (ci := 12) (v := .int 0) (ty := .int) (C := RX12) (T := TX12) (N := 59) hx hb hts i_X12_raise_X12 tyX12 tyX12_ok nmX12 hown hK hP hD hS 0 rfl rfl 52 (by decide) (hts _ m_X12_raise_3) (fun _ h9 => h9) rfl (by decide +kernel) rfl rfl (Nat.le_of_ble_eq_true rfl) dX12_raise_54 (fun H locs hP hD hS => ?_)
    refine lv_aload_n hx hb dX12_raise_57 rfl (lv_at hl 0 rfl) ?_
    refine va_get (D := (dC, dI)) (ci := 12) (v := .ref (b 2)) (C := RX12) (T := TX12) (N := 59) hx hb hts i_X12_raise_X12 hown hK hP 0 rfl rfl 3 (by decide) (hts _ m_X12_raise_2) (fun _ h9 => h9) rfl dX12_raise_58 ?_
    refine lv_sipush (v := 3307) hx hb dX12_raise_61 (by decide) ?_
    refine lv_dup2_11 hx hb dX12_raise_64 rfl rfl ?_
    refine va_iald hx hb hK hP 1 0 rfl rfl (show ¬ ((3307 : Int32) < 0 ∨ 3408 ≤ Int32.toNatClampNeg 3307) by decide) dX12_raise_65 ?_
    refine tk_i 0 (by rfl) ?_
    refine lv_iconst (v := 1) hx hb dX12_raise_66 (by decide) ?_
    refine lv_iload_n hx hb dX12_raise_67 rfl (lv_at hl 1 rfl) ?_
    refine lv_ishl hx hb dX12_raise_68 ?_
    refine lv_ior hx hb dX12_raise_69 ?_
    refine va_iast hx hb hK hP hD hS 1 0 rfl rfl (show ¬ ((3307 : Int32) < 0 ∨ 3408 ≤ Int32.toNatClampNeg 3307) by decide) dX12_raise_70 (fun H locs hP hD hS => ?_)
    refine lv_iconst (v := 0) hx hb dX12_raise_71 (by decide) ?_
    refine lv_istore_n (lv' := [(2, .int 0), (0, .ref (b 0)), (1, .int p0)]) hx hb dX12_raise_72 rfl hl (by decide) rfl (fun ls hl => ?_)
    refine lv_iconst (v := 1) hx hb dX12_raise_73 (by decide) ?_
    refine lv_istore_n (lv' := [(3, .int 1), (2, .int 0), (0, .ref (b 0)), (1, .int p0)]) hx hb dX12_raise_74 rfl hl (by decide) rfl (fun ls hl => ?_)
    refine lv_iload_n hx hb dX12_raise_75 rfl (lv_at hl 0 rfl) ?_
    refine lv_aload_n hx hb dX12_raise_76 rfl (lv_at hl 2 rfl) ?_
    refine va_get (D := (dC, dI)) (ci := 12) (v := .ref (b 2)) (C := RX12) (T := TX12) (N := 59) hx hb hts i_X12_raise_X12 hown hK hP 0 rfl rfl 3 (by decide) (hts _ m_X12_raise_2) (fun _ h9 => h9) rfl dX12_raise_77 ?_
    refine lv_sipush (v := 3264) hx hb dX12_raise_80 (by decide) ?_
    refine va_iald hx hb hK hP 1 0 rfl rfl (show ¬ ((3264 : Int32) < 0 ∨ 3408 ≤ Int32.toNatClampNeg 3264) by decide) dX12_raise_83 ?_
    refine tk_i 1 (by rfl) ?_
    refine lv_icmp_ge (tgt := 110) hx hb dX12_raise_84 (by decide) (fun _ => ?_) (fun c9_ => absurd (by decide) c9_)
    refine lv_iload_n hx hb dX12_raise_110 rfl (lv_at hl 1 rfl) ?_
    refine lv_if_le (tgt := 129) hx hb dX12_raise_111 (by decide) (fun _ => ?_) (fun c9_ => absurd (by decide) c9_)
    refine lv_iconst (v := 1) hx hb dX12_raise_129 (by decide) ?_
    refine lv_istore_n (lv' := [(3, .int 1), (2, .int 0), (0, .ref (b 0)), (1, .int p0)]) hx hb dX12_raise_130 rfl hl (by decide) rfl (fun ls hl => ?_)
    refine lv_iload_n hx hb dX12_raise_131 rfl (lv_at hl 0 rfl) ?_
    refine lv_aload_n hx hb dX12_raise_132 rfl (lv_at hl 2 rfl) ?_
    refine va_get (D := (dC, dI)) (ci := 12) (v := .ref (b 2)) (C := RX12) (T := TX12) (N := 59) hx hb hts i_X12_raise_X12 hown hK hP 0 rfl rfl 3 (by decide) (hts _ m_X12_raise_2) (fun _ h9 => h9) rfl dX12_raise_133 ?_
    refine lv_sipush (v := 3264) hx hb dX12_raise_136 (by decide) ?_
    refine va_iald hx hb hK hP 1 0 rfl rfl (show ¬ ((3264 : Int32) < 0 ∨ 3408 ≤ Int32.toNatClampNeg 3264) by decide) dX12_raise_139 ?_
    refine tk_i 1 (by rfl) ?_
    refine lv_icmp_ge (tgt := 168) hx hb dX12_raise_140 (by decide) (fun _ => ?_) (fun c9_ => absurd (by decide) c9_)
    refine lv_aload_n hx hb dX12_raise_168 rfl (lv_at hl 2 rfl) ?_
    refine lv_iload_n hx hb dX12_raise_169 rfl (lv_at hl 1 rfl) ?_
    have hPc : va_P (dC, dI) vwCl ([(b 0, .inr (12, [.int 0, .int 0, .ref (b 1), .ref (b 2), .ref (b 3), .ref (b 4), .int 1, .ref (b 5), .ref (b 6), .int 0, .int 0, .int 0, .int (-1), .int 0, .ref (b 7), .ref (b 20), .int 0, .ref (b 21), .ref (b 22), .int 0, .int 0, .ref (b 23), .int 0, .int 0, .int 0, .int 0, .ref (b 24), .ref (b 25), .ref (b 26), .int 0, .ref (b 27), .int 0, .ref (b 28), .ref (b 29), .ref (b 30), .ref (b 31), .ref (b 32), .ref (b 33), .ref (b 34), .int 0, .int 0, .int 0, .int 0, .int 0, .int 0, .ref (b 35), .ref (b 36), .ref (b 37), .int 0, .int 0, .int 0, .ref (b 38), .int 0, .int 0, .ref (b 39), .ref (b 40), .ref (b 41), .ref (b 42), .int 0]))]) _ := hP.sub [0] rfl
    have hDc := hD.sub (ws' := [(b 0, .inr (12, [.int 0, .int 0, .ref (b 1), .ref (b 2), .ref (b 3), .ref (b 4), .int 1, .ref (b 5), .ref (b 6), .int 0, .int 0, .int 0, .int (-1), .int 0, .ref (b 7), .ref (b 20), .int 0, .ref (b 21), .ref (b 22), .int 0, .int 0, .ref (b 23), .int 0, .int 0, .int 0, .int 0, .ref (b 24), .ref (b 25), .ref (b 26), .int 0, .ref (b 27), .int 0, .ref (b 28), .ref (b 29), .ref (b 30), .ref (b 31), .ref (b 32), .ref (b 33), .ref (b 34), .int 0, .int 0, .int 0, .int 0, .int 0, .int 0, .ref (b 35), .ref (b 36), .ref (b 37), .int 0, .int 0, .int 0, .ref (b 38), .int 0, .int 0, .ref (b 39), .ref (b 40), .ref (b 41), .ref (b 42), .int 0]))]) [0] (by decide) rfl
    have hFc := va_free (wc := [(b 0, .inr (12, [.int 0, .int 0, .ref (b 1), .ref (b 2), .ref (b 3), .ref (b 4), .int 1, .ref (b 5), .ref (b 6), .int 0, .int 0, .int 0, .int (-1), .int 0, .ref (b 7), .ref (b 20), .int 0, .ref (b 21), .ref (b 22), .int 0, .int 0, .ref (b 23), .int 0, .int 0, .int 0, .int 0, .ref (b 24), .ref (b 25), .ref (b 26), .int 0, .ref (b 27), .int 0, .ref (b 28), .ref (b 29), .ref (b 30), .ref (b 31), .ref (b 32), .ref (b 33), .ref (b 34), .int 0, .int 0, .int 0, .int 0, .int 0, .int 0, .ref (b 35), .ref (b 36), .ref (b 37), .int 0, .int 0, .int 0, .ref (b 38), .int 0, .int 0, .ref (b 39), .ref (b 40), .ref (b 41), .ref (b 42), .int 0]))]) hD hS hA [0] rfl
    refine va_calli (va_runV (As := [.int 0]) (rest := []) ⟨hx, hb, hml, hown, hts⟩ (c_X12_tell l dC dI cy b _ 0 0 (-1) 0 1 0 0 0 0 0) (cwV 1 hts g_X12_raise_X12_tell_122 rfl rfl rfl (by decide +kernel) ⟨Nat.le_of_ble_eq_true rfl, Nat.le_of_ble_eq_true rfl⟩) (pv_ps hC hPc hDc (ci := 12) (q0 := 0) rfl rfl) rfl rfl hl.1 rfl (lv_room (Nat.le_of_ble_eq_true rfl)) dX12_raise_170 ⟨Nat.le_of_ble_eq_true rfl, Nat.le_of_ble_eq_true rfl⟩) hS (fun q _ h => hFc q h) hFc (fun r_ u t_ H1 locs ht hvm hw hB hz1 hk1 hS => ?_)
    obtain ⟨hP, hD⟩ := va_join (wr := []) (w1 := []) hP hD [0] [] rfl rfl (by decide) (by decide) hk1 hFc va_P0 va_D0
    generalize H1 = H at hP hS ⊢
    have hP : va_P (dC, dI) vwCl ([]) H := hP
    have hD : va_D A ([]) := hD
    subst hw
    exact W.iret (v := 0) hx hb hr (fun t ht hW => ⟨⟨0, (), rfl, Or.inr (Or.inr (⟨c4_, c5_, rfl⟩)), trivial⟩, hS.F ht⟩) hS.2.2 dX12_raise_173

theorem dX12_node_0 : decode cX12_node 0 = .ok (.aload_n 0, 1) := by decide +kernel
theorem dX12_node_1 : decode cX12_node 1 = .ok (.iconst 0, 1) := by decide +kernel
theorem dX12_node_2 : decode cX12_node 2 = .ok (.putfield 105, 3) := by decide +kernel
theorem dX12_node_5 : decode cX12_node 5 = .ok (.aload_n 0, 1) := by decide +kernel
theorem dX12_node_6 : decode cX12_node 6 = .ok (.iload_n 1, 1) := by decide +kernel
theorem dX12_node_7 : decode cX12_node 7 = .ok (.invokevirtual 132, 3) := by decide +kernel
theorem dX12_node_10 : decode cX12_node 10 = .ok (.ifCond .ne 5, 3) := by decide +kernel
theorem dX12_node_13 : decode cX12_node 13 = .ok (.iconst (-1), 1) := by decide +kernel
theorem dX12_node_14 : decode cX12_node 14 = .ok (.ireturn, 1) := by decide +kernel
theorem dX12_node_15 : decode cX12_node 15 = .ok (.iload_n 1, 1) := by decide +kernel
theorem dX12_node_16 : decode cX12_node 16 = .ok (.invokestatic 125, 3) := by decide +kernel
theorem dX12_node_19 : decode cX12_node 19 = .ok (.istore_n 3, 1) := by decide +kernel
theorem dX12_node_20 : decode cX12_node 20 = .ok (.iload_n 2, 1) := by decide +kernel
theorem dX12_node_21 : decode cX12_node 21 = .ok (.i2l, 1) := by decide +kernel
theorem dX12_node_22 : decode cX12_node 22 = .ok (.lconst 0, 1) := by decide +kernel
theorem dX12_node_23 : decode cX12_node 23 = .ok (.ldc2_w 512, 3) := by decide +kernel
theorem dX12_node_26 : decode cX12_node 26 = .ok (.invokestatic 128, 3) := by decide +kernel
theorem dX12_node_29 : decode cX12_node 29 = .ok (.ifCond .eq 12, 3) := by decide +kernel
theorem dX12_node_32 : decode cX12_node 32 = .ok (.aload_n 0, 1) := by decide +kernel
theorem dX12_node_33 : decode cX12_node 33 = .ok (.getfield 13, 3) := by decide +kernel
theorem dX12_node_36 : decode cX12_node 36 = .ok (.iload_n 3, 1) := by decide +kernel
theorem dX12_node_37 : decode cX12_node 37 = .ok (.iload_n 2, 1) := by decide +kernel
theorem dX12_node_38 : decode cX12_node 38 = .ok (.iadd, 1) := by decide +kernel
theorem dX12_node_39 : decode cX12_node 39 = .ok (.iaload, 1) := by decide +kernel
theorem dX12_node_40 : decode cX12_node 40 = .ok (.ireturn, 1) := by decide +kernel
theorem dX12_node_41 : decode cX12_node 41 = .ok (.aload_n 0, 1) := by decide +kernel
theorem dX12_node_42 : decode cX12_node 42 = .ok (.iload_n 1, 1) := by decide +kernel
theorem dX12_node_43 : decode cX12_node 43 = .ok (.invokevirtual 136, 3) := by decide +kernel
theorem dX12_node_46 : decode cX12_node 46 = .ok (.tableswitch 249 1 6 #[38, 45, 85, 122, 141, 203], 38) := by decide +kernel
theorem dX12_node_84 : decode cX12_node 84 = .ok (.aload_n 0, 1) := by decide +kernel
theorem dX12_node_85 : decode cX12_node 85 = .ok (.iload_n 3, 1) := by decide +kernel
theorem dX12_node_86 : decode cX12_node 86 = .ok (.iload_n 2, 1) := by decide +kernel
theorem dX12_node_87 : decode cX12_node 87 = .ok (.invokevirtual 514, 3) := by decide +kernel
theorem dX12_node_90 : decode cX12_node 90 = .ok (.ireturn, 1) := by decide +kernel
def v_X12_node : List Cond := .code yX12_node cX12_node 4 (some .int) :: ([.fieldLink RX12 105 "RestBoardModel" "thrown" "I", .constantLong RX12 512 (2), .fieldLink RX12 13 "RestBoardModel" "row" "[I", .methodLink RX12 132 yX12_isNode, .instanceMethod yX12_isNode, .selects RX12 yX12_isNode yX12_isNode, .initialized RX12, .code yX12_isNode cX12_isNode 2 (some .boolean), .methodLink RX12 128 yX12_in, .static yX12_in, .code yX12_in cX12_in 6 (some .boolean), .methodLink RX12 125 yX12_at, .static yX12_at, .code yX12_at cX12_at 1 (some .int), .methodLink RX12 136 yX12_kind, .instanceMethod yX12_kind, .selects RX12 yX12_kind yX12_kind, .code yX12_kind cX12_kind 2 (some .int), .methodLink RX12 514 yX12_deviceOf, .instanceMethod yX12_deviceOf, .selects RX12 yX12_deviceOf yX12_deviceOf, .code yX12_deviceOf cX12_deviceOf 4 (some .int)] ++ wsX120)
theorem m_X12_node_0 : (.fieldLink RX12 105 "RestBoardModel" "thrown" "I" : Cond) ∈ v_X12_node := List.mem_of_getElem? (i := 1) (by decide +kernel)
theorem m_X12_node_1 : (.constantLong RX12 512 (2) : Cond) ∈ v_X12_node := List.mem_of_getElem? (i := 2) (by decide +kernel)
theorem m_X12_node_2 : (.fieldLink RX12 13 "RestBoardModel" "row" "[I" : Cond) ∈ v_X12_node := List.mem_of_getElem? (i := 3) (by decide +kernel)
theorem i_X12_node_X12 : ∀ w ∈ u_ws RX12 TX12 59, w ∈ v_X12_node := fun w h => List.mem_cons_of_mem _ (List.mem_append_right _ h)
set_option maxRecDepth 100000 in
theorem gg_X12_node_X12_isNode_132 : GoodIn v_X12_node v_X12_isNode := goodIn_r _ [8, 3, 9, 10, 7, 11, 23, 24, 25, 26, 27, 28, 29, 30, 31, 32, 33, 34, 35, 36, 37, 38, 39, 40, 41, 42, 43, 44, 45, 46, 47, 48, 49, 50, 51, 52, 53, 54, 55, 56, 57, 58, 59, 60, 61, 62, 63, 64, 65, 66, 67, 68, 69, 70, 71, 72, 73, 74, 75, 76, 77, 78, 79, 80, 81] (by decide +kernel) (by decide +kernel)
set_option maxRecDepth 100000 in
theorem g_X12_node_X12_isNode_132 : GoodIn v_X12_node (wsV RX12 132 RX12 yX12_isNode v_X12_isNode) := goodIn_app (goodIn_r _ [4, 5, 6, 7] (by decide +kernel) (by decide +kernel)) gg_X12_node_X12_isNode_132
set_option maxRecDepth 100000 in
theorem gg_X12_node_X12_at_125 : GoodIn v_X12_node v_X12_at := goodIn_r _ [14] (by decide +kernel) (by decide +kernel)
set_option maxRecDepth 100000 in
theorem g_X12_node_X12_at_125 : GoodIn v_X12_node (va_wsS RX12 125 yX12_at v_X12_at) := goodIn_app (goodIn_r _ [12, 13, 7] (by decide +kernel) (by decide +kernel)) gg_X12_node_X12_at_125
set_option maxRecDepth 100000 in
theorem gg_X12_node_X12_in_128 : GoodIn v_X12_node v_X12_in := goodIn_r _ [11] (by decide +kernel) (by decide +kernel)
set_option maxRecDepth 100000 in
theorem g_X12_node_X12_in_128 : GoodIn v_X12_node (va_wsS RX12 128 yX12_in v_X12_in) := goodIn_app (goodIn_r _ [9, 10, 7] (by decide +kernel) (by decide +kernel)) gg_X12_node_X12_in_128
set_option maxRecDepth 100000 in
theorem gg_X12_node_X12_kind_136 : GoodIn v_X12_node v_X12_kind := goodIn_r _ [18, 3, 12, 13, 7, 14, 23, 24, 25, 26, 27, 28, 29, 30, 31, 32, 33, 34, 35, 36, 37, 38, 39, 40, 41, 42, 43, 44, 45, 46, 47, 48, 49, 50, 51, 52, 53, 54, 55, 56, 57, 58, 59, 60, 61, 62, 63, 64, 65, 66, 67, 68, 69, 70, 71, 72, 73, 74, 75, 76, 77, 78, 79, 80, 81] (by decide +kernel) (by decide +kernel)
set_option maxRecDepth 100000 in
theorem g_X12_node_X12_kind_136 : GoodIn v_X12_node (wsV RX12 136 RX12 yX12_kind v_X12_kind) := goodIn_app (goodIn_r _ [15, 16, 17, 7] (by decide +kernel) (by decide +kernel)) gg_X12_node_X12_kind_136
set_option maxRecDepth 100000 in
theorem gg_X12_node_X12_deviceOf_514 : GoodIn v_X12_node v_X12_deviceOf := goodIn_r _ [22, 3, 23, 24, 25, 26, 27, 28, 29, 30, 31, 32, 33, 34, 35, 36, 37, 38, 39, 40, 41, 42, 43, 44, 45, 46, 47, 48, 49, 50, 51, 52, 53, 54, 55, 56, 57, 58, 59, 60, 61, 62, 63, 64, 65, 66, 67, 68, 69, 70, 71, 72, 73, 74, 75, 76, 77, 78, 79, 80, 81] (by decide +kernel) (by decide +kernel)
set_option maxRecDepth 100000 in
theorem g_X12_node_X12_deviceOf_514 : GoodIn v_X12_node (wsV RX12 514 RX12 yX12_deviceOf v_X12_deviceOf) := goodIn_app (goodIn_r _ [19, 20, 21, 7] (by decide +kernel) (by decide +kernel)) gg_X12_node_X12_deviceOf_514
set_option maxHeartbeats 4000000 in
set_option maxRecDepth 100000 in
theorem c_X12_node (l : Launch) (dC : Nat → ClassId) (dI : Nat → Nat → Nat) (cy : Nat → ClassId) (b : Nat → Nat) (sz : Nat) (p0 p1 : Int32) : Met l yX12_node v_X12_node ({ frames := 2, cells := 0, slots := 0, locals := 46 }) (va_Pc [.ref (b 0), .int p0, .int p1] (ps dC dI cy (mw b cy) sz)) (va_Qi (fun (r : Int32) (_ : Unit) => ((p0 < 0) ∧ r = (-1)) ∨ ((¬ p0 < 0) ∧ ((0 : Int32) < p0) ∧ r = (-1)) ∨ ((p0 = 0) ∧ (p1 < 0) ∧ (¬ p1 = 30) ∧ (¬ p1 = 31) ∧ (¬ p1 = 32) ∧ (¬ p1 = 33) ∧ r = (-1)) ∨ ((p0 = 0) ∧ (¬ p1 < 0) ∧ ((2 : Int32) < p1) ∧ (¬ p1 = 30) ∧ (¬ p1 = 31) ∧ (¬ p1 = 32) ∧ (¬ p1 = 33) ∧ r = (-1)) ∨ ((p0 = 0) ∧ (p1 = 33) ∧ r = (-1)) ∨ ((p0 = 0) ∧ (p1 = 32) ∧ r = (-1)) ∨ ((p0 = 0) ∧ (p1 = 31) ∧ r = 0) ∨ ((p0 = 0) ∧ (p1 = 30) ∧ r = 0) ∨ ((p0 = 0) ∧ (p1 = 0) ∧ r = 1) ∨ ((p0 = 0) ∧ (p1 = 1) ∧ r = 0) ∨ ((p0 = 0) ∧ (p1 = 2) ∧ r = (-1))) (fun _ _ => True) (va_A (mw b cy) sz)) 0 0 (va_A (mw b cy) sz) := by
  refine Met.ofW (cc := cX12_node) (maxL := 4) (ret := (some .int)) (by decide) rfl ?_
  intro p e s m args below meth c s₁ B hml hv
  obtain ⟨rfl, hsz, hP, hC, hD0⟩ := hv
  have hK := hC.1
  have hx := B.exec
  have hb := B.bytes
  have hr := B.returns
  have hts := atoms_spec (ws := v_X12_node) B.pre
  have hown : s.vm.findClass RX12 = some m.cls := findClass_of_methodNamed B.named
  have hlocks := B.notSynchronized
  subst hsz
  have hD := hD0.self (sz := s.heap.size)
  generalize hAe : va_A (mw b cy) s.heap.size = A at hD ⊢
  have hA : ∀ q : Nat, s.heap.size ≤ q → A q := fun q h => by rw [← hAe]; exact Or.inr h
  have hS : va_S A s.heap s.heap [] := va_S.rf
  have hl := lv_entry ([.ref (b 0), .int p0, .int p1]) (n := 4) (Nat.le_of_ble_eq_true rfl)
  rw [lg_entry_eq]
  generalize (lg_sl ([.ref (b 0), .int p0, .int p1]) ++ List.replicate (4 - (lg_sl ([.ref (b 0), .int p0, .int p1])).length) Slot.unset).toArray = ls at hl ⊢
  have hl : lv_has ls 4 [(0, .ref (b 0)), (1, .int p0), (2, .int p1)] := hl
  refine lv_aload_n hx hb dX12_node_0 rfl (lv_at hl 0 rfl) ?_
  refine lv_iconst (v := 0) hx hb dX12_node_1 (by decide) ?_
  refine va_put (D := (dC, dI)) (ci := 12) (v := .int 0) (ty := .int) (C := RX12) (T := TX12) (N := 59) hx hb hts i_X12_node_X12 tyX12 tyX12_ok nmX12 hown hK hP hD hS 0 rfl rfl 0 (by decide) (hts _ m_X12_node_0) (fun _ h9 => h9) rfl (by decide +kernel) rfl rfl (Nat.le_of_ble_eq_true rfl) dX12_node_2 (fun H locs hP hD hS => ?_)
  have hP : va_P (dC, dI) vwCl (mw b cy) H := hP
  have hD : va_D A (mw b cy) := hD
  refine lv_aload_n hx hb dX12_node_5 rfl (lv_at hl 0 rfl) ?_
  refine lv_iload_n hx hb dX12_node_6 rfl (lv_at hl 1 rfl) ?_
  refine tk_pi (va_runV (As := [.int p0]) (rest := []) ⟨hx, hb, hml, hown, hts⟩ (c_X12_isNode l dC dI cy b p0) (cwV 1 hts g_X12_node_X12_isNode_132 rfl rfl rfl (by decide +kernel) ⟨Nat.le_of_ble_eq_true rfl, Nat.le_of_ble_eq_true rfl⟩) (pv_pp hC hP (ci := 12) (q0 := 0) rfl rfl) rfl rfl hl.1 rfl (lv_room (Nat.le_of_ble_eq_true rfl)) dX12_node_7 ⟨Nat.le_of_ble_eq_true rfl, Nat.le_of_ble_eq_true rfl⟩) hP hS (fun r_ H locs hw hP hS => ?_)
  rcases hw with ⟨c1_, rfl⟩ | ⟨c2_, c3_, rfl⟩ | ⟨c4_, rfl⟩
  · skip
    refine lv_if_ne (tgt := 15) hx hb dX12_node_10 (by decide) (fun c9_ => absurd (by decide) c9_) (fun _ => ?_)
    refine lv_iconst (v := (-1)) hx hb dX12_node_13 (by decide) ?_
    exact W.iret (v := (-1)) hx hb hr (fun t ht hW => ⟨⟨(-1), (), rfl, Or.inl (⟨c1_, rfl⟩), trivial⟩, hS.F ht⟩) hS.2.2 dX12_node_14
  · skip
    refine lv_if_ne (tgt := 15) hx hb dX12_node_10 (by decide) (fun c9_ => absurd (by decide) c9_) (fun _ => ?_)
    refine lv_iconst (v := (-1)) hx hb dX12_node_13 (by decide) ?_
    exact W.iret (v := (-1)) hx hb hr (fun t ht hW => ⟨⟨(-1), (), rfl, Or.inr (Or.inl (⟨c2_, c3_, rfl⟩)), trivial⟩, hS.F ht⟩) hS.2.2 dX12_node_14
  · skip
    subst c4_
    refine lv_if_ne (tgt := 15) hx hb dX12_node_10 (by decide) (fun _ => ?_) (fun c9_ => absurd c9_ (by decide))
    refine lv_iload_n hx hb dX12_node_15 rfl (lv_at hl 1 rfl) ?_
    refine tk_pi (va_runS (As := [.int 0]) (rest := []) ⟨hx, hb, hml, hown, hts⟩ (c_X12_at l dC dI cy  0) (va_cwS 1 hts g_X12_node_X12_at_125 rfl rfl rfl (by decide +kernel) ⟨Nat.le_of_ble_eq_true rfl, Nat.le_of_ble_eq_true rfl⟩) (pS_pp hC va_P0) rfl rfl hl.1 rfl (lv_room (Nat.le_of_ble_eq_true rfl)) dX12_node_16 ⟨Nat.le_of_ble_eq_true rfl, Nat.le_of_ble_eq_true rfl⟩) hP hS (fun r_ H locs hw hP hS => ?_)
    subst hw
    refine lv_istore_n (lv' := [(3, .int 0), (0, .ref (b 0)), (1, .int 0), (2, .int p1)]) hx hb dX12_node_19 rfl hl (by decide) rfl (fun ls hl => ?_)
    refine lv_iload_n hx hb dX12_node_20 rfl (lv_at hl 3 rfl) ?_
    refine lv_i2l (v := Int32.toInt64 p1) hx hb dX12_node_21 rfl ?_
    refine lv_lconst (v := 0) hx hb dX12_node_22 (by decide) ?_
    refine tk_l (Int32.toInt64 0) (by decide) ?_
    refine lv_ldc2 (v := 2) hx hb hown (hts _ m_X12_node_1) dX12_node_23 ?_
    refine tk_l (Int32.toInt64 2) (by decide) ?_
    refine tk_pi (va_runS (As := [.long (Int32.toInt64 p1), .long (Int32.toInt64 0), .long (Int32.toInt64 2)]) (rest := []) ⟨hx, hb, hml, hown, hts⟩ (c_X12_in l dC dI cy  p1 0 2) (va_cwS 3 hts g_X12_node_X12_in_128 rfl rfl rfl (by decide +kernel) ⟨Nat.le_of_ble_eq_true rfl, Nat.le_of_ble_eq_true rfl⟩) (pS_pp hC va_P0) rfl rfl hl.1 rfl (lv_room (Nat.le_of_ble_eq_true rfl)) dX12_node_26 ⟨Nat.le_of_ble_eq_true rfl, Nat.le_of_ble_eq_true rfl⟩) hP hS (fun r_ H locs hw hP hS => ?_)
    rcases hw with ⟨c5_, rfl⟩ | ⟨c6_, c7_, rfl⟩ | ⟨c8_, c9_, rfl⟩
    · skip
      refine lv_if_eq (tgt := 41) hx hb dX12_node_29 (by decide) (fun _ => ?_) (fun c9_ => absurd (by decide) c9_)
      refine lv_aload_n hx hb dX12_node_41 rfl (lv_at hl 1 rfl) ?_
      refine lv_iload_n hx hb dX12_node_42 rfl (lv_at hl 2 rfl) ?_
      refine tk_pi (va_runV (As := [.int 0]) (rest := []) ⟨hx, hb, hml, hown, hts⟩ (c_X12_kind_0 l dC dI cy b) (cwV 1 hts g_X12_node_X12_kind_136 rfl rfl rfl (by decide +kernel) ⟨Nat.le_of_ble_eq_true rfl, Nat.le_of_ble_eq_true rfl⟩) (pv_pp hC hP (ci := 12) (q0 := 0) rfl rfl) rfl rfl hl.1 rfl (lv_room (Nat.le_of_ble_eq_true rfl)) dX12_node_43 ⟨Nat.le_of_ble_eq_true rfl, Nat.le_of_ble_eq_true rfl⟩) hP hS (fun r_ H locs hw hP hS => ?_)
      subst hw
      refine lv_tableIn (off := 38) (tgt := 84) hx hb dX12_node_46 (by decide) (by decide) (by decide) (by decide) ?_
      refine lv_aload_n hx hb dX12_node_84 rfl (lv_at hl 1 rfl) ?_
      refine lv_iload_n hx hb dX12_node_85 rfl (lv_at hl 0 rfl) ?_
      refine lv_iload_n hx hb dX12_node_86 rfl (lv_at hl 3 rfl) ?_
      refine tk_pi (va_runV (As := [.int 0, .int p1]) (rest := []) ⟨hx, hb, hml, hown, hts⟩ (c_X12_deviceOf_0 l dC dI cy b p1) (cwV 2 hts g_X12_node_X12_deviceOf_514 rfl rfl rfl (by decide +kernel) ⟨Nat.le_of_ble_eq_true rfl, Nat.le_of_ble_eq_true rfl⟩) (pv_pp hC hP (ci := 12) (q0 := 0) rfl rfl) rfl rfl hl.1 rfl (lv_room (Nat.le_of_ble_eq_true rfl)) dX12_node_87 ⟨Nat.le_of_ble_eq_true rfl, Nat.le_of_ble_eq_true rfl⟩) hP hS (fun r_ H locs hw hP hS => ?_)
      rcases hw with ⟨c10_, c11_, c12_, c13_, rfl⟩ | ⟨c14_, rfl⟩ | ⟨c15_, rfl⟩ | ⟨c16_, rfl⟩ | ⟨c17_, rfl⟩
      · skip
        exact W.iret (v := (-1)) hx hb hr (fun t ht hW => ⟨⟨(-1), (), rfl, Or.inr (Or.inr (Or.inl (⟨rfl, c5_, c10_, c11_, c12_, c13_, rfl⟩))), trivial⟩, hS.F ht⟩) hS.2.2 dX12_node_90
      · skip
        exfalso
        have z0_ := tz_lt_r c5_ (show (0 : Int32).toInt = 0 by decide)
        have z1_ := tz_eq_r c14_ (show (33 : Int32).toInt = 33 by decide)
        omega
      · skip
        exfalso
        have z0_ := tz_lt_r c5_ (show (0 : Int32).toInt = 0 by decide)
        have z1_ := tz_eq_r c15_ (show (32 : Int32).toInt = 32 by decide)
        omega
      · skip
        exfalso
        have z0_ := tz_lt_r c5_ (show (0 : Int32).toInt = 0 by decide)
        have z1_ := tz_eq_r c16_ (show (31 : Int32).toInt = 31 by decide)
        omega
      · skip
        exfalso
        have z0_ := tz_lt_r c5_ (show (0 : Int32).toInt = 0 by decide)
        have z1_ := tz_eq_r c17_ (show (30 : Int32).toInt = 30 by decide)
        omega
    · skip
      refine lv_if_eq (tgt := 41) hx hb dX12_node_29 (by decide) (fun _ => ?_) (fun c9_ => absurd (by decide) c9_)
      refine lv_aload_n hx hb dX12_node_41 rfl (lv_at hl 1 rfl) ?_
      refine lv_iload_n hx hb dX12_node_42 rfl (lv_at hl 2 rfl) ?_
      refine tk_pi (va_runV (As := [.int 0]) (rest := []) ⟨hx, hb, hml, hown, hts⟩ (c_X12_kind_0 l dC dI cy b) (cwV 1 hts g_X12_node_X12_kind_136 rfl rfl rfl (by decide +kernel) ⟨Nat.le_of_ble_eq_true rfl, Nat.le_of_ble_eq_true rfl⟩) (pv_pp hC hP (ci := 12) (q0 := 0) rfl rfl) rfl rfl hl.1 rfl (lv_room (Nat.le_of_ble_eq_true rfl)) dX12_node_43 ⟨Nat.le_of_ble_eq_true rfl, Nat.le_of_ble_eq_true rfl⟩) hP hS (fun r_ H locs hw hP hS => ?_)
      subst hw
      refine lv_tableIn (off := 38) (tgt := 84) hx hb dX12_node_46 (by decide) (by decide) (by decide) (by decide) ?_
      refine lv_aload_n hx hb dX12_node_84 rfl (lv_at hl 1 rfl) ?_
      refine lv_iload_n hx hb dX12_node_85 rfl (lv_at hl 0 rfl) ?_
      refine lv_iload_n hx hb dX12_node_86 rfl (lv_at hl 3 rfl) ?_
      refine tk_pi (va_runV (As := [.int 0, .int p1]) (rest := []) ⟨hx, hb, hml, hown, hts⟩ (c_X12_deviceOf_0 l dC dI cy b p1) (cwV 2 hts g_X12_node_X12_deviceOf_514 rfl rfl rfl (by decide +kernel) ⟨Nat.le_of_ble_eq_true rfl, Nat.le_of_ble_eq_true rfl⟩) (pv_pp hC hP (ci := 12) (q0 := 0) rfl rfl) rfl rfl hl.1 rfl (lv_room (Nat.le_of_ble_eq_true rfl)) dX12_node_87 ⟨Nat.le_of_ble_eq_true rfl, Nat.le_of_ble_eq_true rfl⟩) hP hS (fun r_ H locs hw hP hS => ?_)
      rcases hw with ⟨c18_, c19_, c20_, c21_, rfl⟩ | ⟨c22_, rfl⟩ | ⟨c23_, rfl⟩ | ⟨c24_, rfl⟩ | ⟨c25_, rfl⟩
      · skip
        exact W.iret (v := (-1)) hx hb hr (fun t ht hW => ⟨⟨(-1), (), rfl, Or.inr (Or.inr (Or.inr (Or.inl (⟨rfl, c6_, c7_, c18_, c19_, c20_, c21_, rfl⟩)))), trivial⟩, hS.F ht⟩) hS.2.2 dX12_node_90
      · skip
        subst c22_
        exact W.iret (v := (-1)) hx hb hr (fun t ht hW => ⟨⟨(-1), (), rfl, Or.inr (Or.inr (Or.inr (Or.inr (Or.inl (⟨rfl, rfl, rfl⟩))))), trivial⟩, hS.F ht⟩) hS.2.2 dX12_node_90
      · skip
        subst c23_
        exact W.iret (v := (-1)) hx hb hr (fun t ht hW => ⟨⟨(-1), (), rfl, Or.inr (Or.inr (Or.inr (Or.inr (Or.inr (Or.inl (⟨rfl, rfl, rfl⟩)))))), trivial⟩, hS.F ht⟩) hS.2.2 dX12_node_90
      · skip
        subst c24_
        exact W.iret (v := 0) hx hb hr (fun t ht hW => ⟨⟨0, (), rfl, Or.inr (Or.inr (Or.inr (Or.inr (Or.inr (Or.inr (Or.inl (⟨rfl, rfl, rfl⟩))))))), trivial⟩, hS.F ht⟩) hS.2.2 dX12_node_90
      · skip
        subst c25_
        exact W.iret (v := 0) hx hb hr (fun t ht hW => ⟨⟨0, (), rfl, Or.inr (Or.inr (Or.inr (Or.inr (Or.inr (Or.inr (Or.inr (Or.inl (⟨rfl, rfl, rfl⟩)))))))), trivial⟩, hS.F ht⟩) hS.2.2 dX12_node_90
    · skip
      refine lv_if_eq (tgt := 41) hx hb dX12_node_29 (by decide) (fun c9_ => absurd c9_ (by decide)) (fun _ => ?_)
      by_cases c26_ : p1 = 0
      · skip
        subst c26_
        refine lv_aload_n hx hb dX12_node_32 rfl (lv_at hl 1 rfl) ?_
        refine va_get (D := (dC, dI)) (ci := 12) (v := .ref (b 2)) (C := RX12) (T := TX12) (N := 59) hx hb hts i_X12_node_X12 hown hK hP 0 rfl rfl 3 (by decide) (hts _ m_X12_node_2) (fun _ h9 => h9) rfl dX12_node_33 ?_
        refine lv_iload_n hx hb dX12_node_36 rfl (lv_at hl 0 rfl) ?_
        refine lv_iload_n hx hb dX12_node_37 rfl (lv_at hl 3 rfl) ?_
        refine lv_iadd hx hb dX12_node_38 ?_
        refine tk_i 0 (by decide) ?_
        refine va_iald hx hb hK hP 2 0 rfl rfl (show ¬ ((0 : Int32) < 0 ∨ 3408 ≤ Int32.toNatClampNeg 0) by decide) dX12_node_39 ?_
        refine tk_i 1 (by rfl) ?_
        exact W.iret (v := 1) hx hb hr (fun t ht hW => ⟨⟨1, (), rfl, Or.inr (Or.inr (Or.inr (Or.inr (Or.inr (Or.inr (Or.inr (Or.inr (Or.inl (⟨rfl, rfl, rfl⟩))))))))), trivial⟩, hS.F ht⟩) hS.2.2 dX12_node_40
      by_cases c27_ : p1 = 1
      · skip
        subst c27_
        refine lv_aload_n hx hb dX12_node_32 rfl (lv_at hl 1 rfl) ?_
        refine va_get (D := (dC, dI)) (ci := 12) (v := .ref (b 2)) (C := RX12) (T := TX12) (N := 59) hx hb hts i_X12_node_X12 hown hK hP 0 rfl rfl 3 (by decide) (hts _ m_X12_node_2) (fun _ h9 => h9) rfl dX12_node_33 ?_
        refine lv_iload_n hx hb dX12_node_36 rfl (lv_at hl 0 rfl) ?_
        refine lv_iload_n hx hb dX12_node_37 rfl (lv_at hl 3 rfl) ?_
        refine lv_iadd hx hb dX12_node_38 ?_
        refine tk_i 1 (by decide) ?_
        refine va_iald hx hb hK hP 2 0 rfl rfl (show ¬ ((1 : Int32) < 0 ∨ 3408 ≤ Int32.toNatClampNeg 1) by decide) dX12_node_39 ?_
        refine tk_i 0 (by rfl) ?_
        exact W.iret (v := 0) hx hb hr (fun t ht hW => ⟨⟨0, (), rfl, Or.inr (Or.inr (Or.inr (Or.inr (Or.inr (Or.inr (Or.inr (Or.inr (Or.inr (Or.inl (⟨rfl, rfl, rfl⟩)))))))))), trivial⟩, hS.F ht⟩) hS.2.2 dX12_node_40
      have e28_ : p1 = 2 := by
        have z0_ := tz_nlt_r c8_ (show (0 : Int32).toInt = 0 by decide)
        have z1_ := tz_nlt_l c9_ (show (2 : Int32).toInt = 2 by decide)
        have z2_ := tz_neq_r c26_ (show (0 : Int32).toInt = 0 by decide)
        have z3_ := tz_neq_r c27_ (show (1 : Int32).toInt = 1 by decide)
        exact tz_pin (show (2 : Int32).toInt = 2 by decide) (by omega)
      subst e28_
      refine lv_aload_n hx hb dX12_node_32 rfl (lv_at hl 1 rfl) ?_
      refine va_get (D := (dC, dI)) (ci := 12) (v := .ref (b 2)) (C := RX12) (T := TX12) (N := 59) hx hb hts i_X12_node_X12 hown hK hP 0 rfl rfl 3 (by decide) (hts _ m_X12_node_2) (fun _ h9 => h9) rfl dX12_node_33 ?_
      refine lv_iload_n hx hb dX12_node_36 rfl (lv_at hl 0 rfl) ?_
      refine lv_iload_n hx hb dX12_node_37 rfl (lv_at hl 3 rfl) ?_
      refine lv_iadd hx hb dX12_node_38 ?_
      refine tk_i 2 (by decide) ?_
      refine va_iald hx hb hK hP 2 0 rfl rfl (show ¬ ((2 : Int32) < 0 ∨ 3408 ≤ Int32.toNatClampNeg 2) by decide) dX12_node_39 ?_
      refine tk_i (-1) (by rfl) ?_
      exact W.iret (v := (-1)) hx hb hr (fun t ht hW => ⟨⟨(-1), (), rfl, Or.inr (Or.inr (Or.inr (Or.inr (Or.inr (Or.inr (Or.inr (Or.inr (Or.inr (Or.inr (⟨rfl, rfl, rfl⟩)))))))))), trivial⟩, hS.F ht⟩) hS.2.2 dX12_node_40

theorem dX12_register_0 : decode cX12_register 0 = .ok (.aload_n 0, 1) := by decide +kernel
theorem dX12_register_1 : decode cX12_register 1 = .ok (.iconst 0, 1) := by decide +kernel
theorem dX12_register_2 : decode cX12_register 2 = .ok (.putfield 105, 3) := by decide +kernel
theorem dX12_register_5 : decode cX12_register 5 = .ok (.iload_n 1, 1) := by decide +kernel
theorem dX12_register_6 : decode cX12_register 6 = .ok (.i2l, 1) := by decide +kernel
theorem dX12_register_7 : decode cX12_register 7 = .ok (.lconst 0, 1) := by decide +kernel
theorem dX12_register_8 : decode cX12_register 8 = .ok (.ldc2_w 462, 3) := by decide +kernel
theorem dX12_register_11 : decode cX12_register 11 = .ok (.invokestatic 128, 3) := by decide +kernel
theorem dX12_register_14 : decode cX12_register 14 = .ok (.ifCond .eq 33, 3) := by decide +kernel
theorem dX12_register_17 : decode cX12_register 17 = .ok (.iload_n 2, 1) := by decide +kernel
theorem dX12_register_18 : decode cX12_register 18 = .ok (.i2l, 1) := by decide +kernel
theorem dX12_register_19 : decode cX12_register 19 = .ok (.lconst 0, 1) := by decide +kernel
theorem dX12_register_20 : decode cX12_register 20 = .ok (.ldc2_w 460, 3) := by decide +kernel
theorem dX12_register_23 : decode cX12_register 23 = .ok (.invokestatic 128, 3) := by decide +kernel
theorem dX12_register_26 : decode cX12_register 26 = .ok (.ifCond .eq 21, 3) := by decide +kernel
theorem dX12_register_29 : decode cX12_register 29 = .ok (.aload_n 0, 1) := by decide +kernel
theorem dX12_register_30 : decode cX12_register 30 = .ok (.getfield 13, 3) := by decide +kernel
theorem dX12_register_33 : decode cX12_register 33 = .ok (.sipush 3266, 3) := by decide +kernel
theorem dX12_register_36 : decode cX12_register 36 = .ok (.bipush 8, 2) := by decide +kernel
theorem dX12_register_38 : decode cX12_register 38 = .ok (.iload_n 1, 1) := by decide +kernel
theorem dX12_register_39 : decode cX12_register 39 = .ok (.imul, 1) := by decide +kernel
theorem dX12_register_40 : decode cX12_register 40 = .ok (.iadd, 1) := by decide +kernel
theorem dX12_register_41 : decode cX12_register 41 = .ok (.iload_n 2, 1) := by decide +kernel
theorem dX12_register_42 : decode cX12_register 42 = .ok (.iadd, 1) := by decide +kernel
theorem dX12_register_43 : decode cX12_register 43 = .ok (.iaload, 1) := by decide +kernel
theorem dX12_register_44 : decode cX12_register 44 = .ok (.goto 4, 3) := by decide +kernel
theorem dX12_register_47 : decode cX12_register 47 = .ok (.iconst (-1), 1) := by decide +kernel
theorem dX12_register_48 : decode cX12_register 48 = .ok (.ireturn, 1) := by decide +kernel
def v_X12_register : List Cond := .code yX12_register cX12_register 3 (some .int) :: ([.fieldLink RX12 105 "RestBoardModel" "thrown" "I", .constantLong RX12 462 (4), .constantLong RX12 460 (7), .fieldLink RX12 13 "RestBoardModel" "row" "[I", .methodLink RX12 128 yX12_in, .static yX12_in, .initialized RX12, .code yX12_in cX12_in 6 (some .boolean)] ++ wsX120)
theorem m_X12_register_0 : (.fieldLink RX12 105 "RestBoardModel" "thrown" "I" : Cond) ∈ v_X12_register := List.mem_of_getElem? (i := 1) (by decide +kernel)
theorem m_X12_register_1 : (.constantLong RX12 462 (4) : Cond) ∈ v_X12_register := List.mem_of_getElem? (i := 2) (by decide +kernel)
theorem m_X12_register_2 : (.constantLong RX12 460 (7) : Cond) ∈ v_X12_register := List.mem_of_getElem? (i := 3) (by decide +kernel)
theorem m_X12_register_3 : (.fieldLink RX12 13 "RestBoardModel" "row" "[I" : Cond) ∈ v_X12_register := List.mem_of_getElem? (i := 4) (by decide +kernel)
theorem i_X12_register_X12 : ∀ w ∈ u_ws RX12 TX12 59, w ∈ v_X12_register := fun w h => List.mem_cons_of_mem _ (List.mem_append_right _ h)
set_option maxRecDepth 100000 in
theorem gg_X12_register_X12_in_128 : GoodIn v_X12_register v_X12_in := goodIn_r _ [8] (by decide +kernel) (by decide +kernel)
set_option maxRecDepth 100000 in
theorem g_X12_register_X12_in_128 : GoodIn v_X12_register (va_wsS RX12 128 yX12_in v_X12_in) := goodIn_app (goodIn_r _ [5, 6, 7] (by decide +kernel) (by decide +kernel)) gg_X12_register_X12_in_128
set_option maxHeartbeats 4000000 in
set_option maxRecDepth 100000 in
theorem c_X12_register (l : Launch) (dC : Nat → ClassId) (dI : Nat → Nat → Nat) (cy : Nat → ClassId) (b : Nat → Nat) (sz : Nat) (p0 p1 : Int32) : Met l yX12_register v_X12_register ({ frames := 1, cells := 0, slots := 0, locals := 25 }) (va_Pc [.ref (b 0), .int p0, .int p1] (ps dC dI cy (mw b cy) sz)) (va_Qi (fun (r : Int32) (_ : Unit) => ((p0 < 0) ∧ r = (-1)) ∨ ((¬ p0 < 0) ∧ ((4 : Int32) < p0) ∧ r = (-1)) ∨ ((¬ p0 < 0) ∧ (¬ (4 : Int32) < p0) ∧ (p1 < 0) ∧ r = (-1)) ∨ ((¬ p0 < 0) ∧ (¬ (4 : Int32) < p0) ∧ (¬ p1 < 0) ∧ ((7 : Int32) < p1) ∧ r = (-1)) ∨ ((¬ p0 < 0) ∧ (¬ (4 : Int32) < p0) ∧ (¬ p1 < 0) ∧ (¬ (7 : Int32) < p1) ∧ r = 0)) (fun _ _ => True) (va_A (mw b cy) sz)) 0 0 (va_A (mw b cy) sz) := by
  refine Met.ofW (cc := cX12_register) (maxL := 3) (ret := (some .int)) (by decide) rfl ?_
  intro p e s m args below meth c s₁ B hml hv
  obtain ⟨rfl, hsz, hP, hC, hD0⟩ := hv
  have hK := hC.1
  have hx := B.exec
  have hb := B.bytes
  have hr := B.returns
  have hts := atoms_spec (ws := v_X12_register) B.pre
  have hown : s.vm.findClass RX12 = some m.cls := findClass_of_methodNamed B.named
  have hlocks := B.notSynchronized
  subst hsz
  have hD := hD0.self (sz := s.heap.size)
  generalize hAe : va_A (mw b cy) s.heap.size = A at hD ⊢
  have hA : ∀ q : Nat, s.heap.size ≤ q → A q := fun q h => by rw [← hAe]; exact Or.inr h
  have hS : va_S A s.heap s.heap [] := va_S.rf
  have hl := lv_entry ([.ref (b 0), .int p0, .int p1]) (n := 3) (Nat.le_of_ble_eq_true rfl)
  rw [lg_entry_eq]
  generalize (lg_sl ([.ref (b 0), .int p0, .int p1]) ++ List.replicate (3 - (lg_sl ([.ref (b 0), .int p0, .int p1])).length) Slot.unset).toArray = ls at hl ⊢
  have hl : lv_has ls 3 [(0, .ref (b 0)), (1, .int p0), (2, .int p1)] := hl
  refine lv_aload_n hx hb dX12_register_0 rfl (lv_at hl 0 rfl) ?_
  refine lv_iconst (v := 0) hx hb dX12_register_1 (by decide) ?_
  refine va_put (D := (dC, dI)) (ci := 12) (v := .int 0) (ty := .int) (C := RX12) (T := TX12) (N := 59) hx hb hts i_X12_register_X12 tyX12 tyX12_ok nmX12 hown hK hP hD hS 0 rfl rfl 0 (by decide) (hts _ m_X12_register_0) (fun _ h9 => h9) rfl (by decide +kernel) rfl rfl (Nat.le_of_ble_eq_true rfl) dX12_register_2 (fun H locs hP hD hS => ?_)
  have hP : va_P (dC, dI) vwCl (mw b cy) H := hP
  have hD : va_D A (mw b cy) := hD
  refine lv_iload_n hx hb dX12_register_5 rfl (lv_at hl 1 rfl) ?_
  refine lv_i2l (v := Int32.toInt64 p0) hx hb dX12_register_6 rfl ?_
  refine lv_lconst (v := 0) hx hb dX12_register_7 (by decide) ?_
  refine tk_l (Int32.toInt64 0) (by decide) ?_
  refine lv_ldc2 (v := 4) hx hb hown (hts _ m_X12_register_1) dX12_register_8 ?_
  refine tk_l (Int32.toInt64 4) (by decide) ?_
  refine tk_pi (va_runS (As := [.long (Int32.toInt64 p0), .long (Int32.toInt64 0), .long (Int32.toInt64 4)]) (rest := []) ⟨hx, hb, hml, hown, hts⟩ (c_X12_in l dC dI cy  p0 0 4) (va_cwS 3 hts g_X12_register_X12_in_128 rfl rfl rfl (by decide +kernel) ⟨Nat.le_of_ble_eq_true rfl, Nat.le_of_ble_eq_true rfl⟩) (pS_pp hC va_P0) rfl rfl hl.1 rfl (lv_room (Nat.le_of_ble_eq_true rfl)) dX12_register_11 ⟨Nat.le_of_ble_eq_true rfl, Nat.le_of_ble_eq_true rfl⟩) hP hS (fun r_ H locs hw hP hS => ?_)
  rcases hw with ⟨c1_, rfl⟩ | ⟨c2_, c3_, rfl⟩ | ⟨c4_, c5_, rfl⟩
  · skip
    refine lv_if_eq (tgt := 47) hx hb dX12_register_14 (by decide) (fun _ => ?_) (fun c9_ => absurd (by decide) c9_)
    refine lv_iconst (v := (-1)) hx hb dX12_register_47 (by decide) ?_
    exact W.iret (v := (-1)) hx hb hr (fun t ht hW => ⟨⟨(-1), (), rfl, Or.inl (⟨c1_, rfl⟩), trivial⟩, hS.F ht⟩) hS.2.2 dX12_register_48
  · skip
    refine lv_if_eq (tgt := 47) hx hb dX12_register_14 (by decide) (fun _ => ?_) (fun c9_ => absurd (by decide) c9_)
    refine lv_iconst (v := (-1)) hx hb dX12_register_47 (by decide) ?_
    exact W.iret (v := (-1)) hx hb hr (fun t ht hW => ⟨⟨(-1), (), rfl, Or.inr (Or.inl (⟨c2_, c3_, rfl⟩)), trivial⟩, hS.F ht⟩) hS.2.2 dX12_register_48
  · skip
    refine lv_if_eq (tgt := 47) hx hb dX12_register_14 (by decide) (fun c9_ => absurd c9_ (by decide)) (fun _ => ?_)
    refine lv_iload_n hx hb dX12_register_17 rfl (lv_at hl 2 rfl) ?_
    refine lv_i2l (v := Int32.toInt64 p1) hx hb dX12_register_18 rfl ?_
    refine lv_lconst (v := 0) hx hb dX12_register_19 (by decide) ?_
    refine tk_l (Int32.toInt64 0) (by decide) ?_
    refine lv_ldc2 (v := 7) hx hb hown (hts _ m_X12_register_2) dX12_register_20 ?_
    refine tk_l (Int32.toInt64 7) (by decide) ?_
    refine tk_pi (va_runS (As := [.long (Int32.toInt64 p1), .long (Int32.toInt64 0), .long (Int32.toInt64 7)]) (rest := []) ⟨hx, hb, hml, hown, hts⟩ (c_X12_in l dC dI cy  p1 0 7) (va_cwS 3 hts g_X12_register_X12_in_128 rfl rfl rfl (by decide +kernel) ⟨Nat.le_of_ble_eq_true rfl, Nat.le_of_ble_eq_true rfl⟩) (pS_pp hC va_P0) rfl rfl hl.1 rfl (lv_room (Nat.le_of_ble_eq_true rfl)) dX12_register_23 ⟨Nat.le_of_ble_eq_true rfl, Nat.le_of_ble_eq_true rfl⟩) hP hS (fun r_ H locs hw hP hS => ?_)
    rcases hw with ⟨c6_, rfl⟩ | ⟨c7_, c8_, rfl⟩ | ⟨c9_, c10_, rfl⟩
    · skip
      refine lv_if_eq (tgt := 47) hx hb dX12_register_26 (by decide) (fun _ => ?_) (fun c9_ => absurd (by decide) c9_)
      refine lv_iconst (v := (-1)) hx hb dX12_register_47 (by decide) ?_
      exact W.iret (v := (-1)) hx hb hr (fun t ht hW => ⟨⟨(-1), (), rfl, Or.inr (Or.inr (Or.inl (⟨c4_, c5_, c6_, rfl⟩))), trivial⟩, hS.F ht⟩) hS.2.2 dX12_register_48
    · skip
      refine lv_if_eq (tgt := 47) hx hb dX12_register_26 (by decide) (fun _ => ?_) (fun c9_ => absurd (by decide) c9_)
      refine lv_iconst (v := (-1)) hx hb dX12_register_47 (by decide) ?_
      exact W.iret (v := (-1)) hx hb hr (fun t ht hW => ⟨⟨(-1), (), rfl, Or.inr (Or.inr (Or.inr (Or.inl (⟨c4_, c5_, c7_, c8_, rfl⟩)))), trivial⟩, hS.F ht⟩) hS.2.2 dX12_register_48
    · skip
      refine lv_if_eq (tgt := 47) hx hb dX12_register_26 (by decide) (fun c9_ => absurd c9_ (by decide)) (fun _ => ?_)
      refine lv_aload_n hx hb dX12_register_29 rfl (lv_at hl 0 rfl) ?_
      refine va_get (D := (dC, dI)) (ci := 12) (v := .ref (b 2)) (C := RX12) (T := TX12) (N := 59) hx hb hts i_X12_register_X12 hown hK hP 0 rfl rfl 3 (by decide) (hts _ m_X12_register_3) (fun _ h9 => h9) rfl dX12_register_30 ?_
      refine lv_sipush (v := 3266) hx hb dX12_register_33 (by decide) ?_
      refine lv_bipush (v := 8) hx hb dX12_register_36 (by decide) ?_
      refine lv_iload_n hx hb dX12_register_38 rfl (lv_at hl 1 rfl) ?_
      refine lv_imul hx hb dX12_register_39 ?_
      refine lv_iadd hx hb dX12_register_40 ?_
      refine lv_iload_n hx hb dX12_register_41 rfl (lv_at hl 2 rfl) ?_
      refine lv_iadd hx hb dX12_register_42 ?_
      refine va_iald hx hb hK hP 2 0 rfl rfl (rg2_in c4_ c5_ c9_ c10_) dX12_register_43 ?_
      refine tk_i 0 (rg2_val c4_ c5_ c9_ c10_) ?_
      refine lv_goto (tgt := 48) hx hb dX12_register_44 (by decide) ?_
      exact W.iret (v := 0) hx hb hr (fun t ht hW => ⟨⟨0, (), rfl, Or.inr (Or.inr (Or.inr (Or.inr (⟨c4_, c5_, c9_, c10_, rfl⟩)))), trivial⟩, hS.F ht⟩) hS.2.2 dX12_register_48

theorem dX12_layOrder_0 : decode cX12_layOrder 0 = .ok (.aload_n 0, 1) := by decide +kernel
theorem dX12_layOrder_1 : decode cX12_layOrder 1 = .ok (.iconst 0, 1) := by decide +kernel
theorem dX12_layOrder_2 : decode cX12_layOrder 2 = .ok (.putfield 476, 3) := by decide +kernel
theorem dX12_layOrder_5 : decode cX12_layOrder 5 = .ok (.bipush 32, 2) := by decide +kernel
theorem dX12_layOrder_7 : decode cX12_layOrder 7 = .ok (.istore_n 1, 1) := by decide +kernel
theorem dX12_layOrder_8 : decode cX12_layOrder 8 = .ok (.iload_n 1, 1) := by decide +kernel
theorem dX12_layOrder_9 : decode cX12_layOrder 9 = .ok (.ifCond .le 68, 3) := by decide +kernel
theorem dX12_layOrder_12 : decode cX12_layOrder 12 = .ok (.aload_n 0, 1) := by decide +kernel
theorem dX12_layOrder_13 : decode cX12_layOrder 13 = .ok (.getfield 13, 3) := by decide +kernel
theorem dX12_layOrder_16 : decode cX12_layOrder 16 = .ok (.sipush 3264, 3) := by decide +kernel
theorem dX12_layOrder_19 : decode cX12_layOrder 19 = .ok (.iaload, 1) := by decide +kernel
theorem dX12_layOrder_20 : decode cX12_layOrder 20 = .ok (.iconst 1, 1) := by decide +kernel
theorem dX12_layOrder_21 : decode cX12_layOrder 21 = .ok (.isub, 1) := by decide +kernel
theorem dX12_layOrder_22 : decode cX12_layOrder 22 = .ok (.istore_n 2, 1) := by decide +kernel
theorem dX12_layOrder_23 : decode cX12_layOrder 23 = .ok (.iload_n 2, 1) := by decide +kernel
theorem dX12_layOrder_24 : decode cX12_layOrder 24 = .ok (.ifCond .le 47, 3) := by decide +kernel
theorem dX12_layOrder_71 : decode cX12_layOrder 71 = .ok (.iinc 1 (-1), 3) := by decide +kernel
theorem dX12_layOrder_74 : decode cX12_layOrder 74 = .ok (.goto (-66), 3) := by decide +kernel
theorem dX12_layOrder_77 : decode cX12_layOrder 77 = .ok (.return_, 1) := by decide +kernel
def v_X12_layOrder : List Cond := .code yX12_layOrder cX12_layOrder 3 none :: ([.fieldLink RX12 476 "RestBoardModel" "nLine" "I", .fieldLink RX12 13 "RestBoardModel" "row" "[I"] ++ wsX120)
theorem m_X12_layOrder_0 : (.fieldLink RX12 476 "RestBoardModel" "nLine" "I" : Cond) ∈ v_X12_layOrder := List.mem_of_getElem? (i := 1) (by decide +kernel)
theorem m_X12_layOrder_1 : (.fieldLink RX12 13 "RestBoardModel" "row" "[I" : Cond) ∈ v_X12_layOrder := List.mem_of_getElem? (i := 2) (by decide +kernel)
theorem i_X12_layOrder_X12 : ∀ w ∈ u_ws RX12 TX12 59, w ∈ v_X12_layOrder := fun w h => List.mem_cons_of_mem _ (List.mem_append_right _ h)
set_option maxHeartbeats 4000000 in
set_option maxRecDepth 100000 in
theorem c_X12_layOrder (l : Launch) (dC : Nat → ClassId) (dI : Nat → Nat → Nat) (cy : Nat → ClassId) (b : Nat → Nat) (sz : Nat) : Met l yX12_layOrder v_X12_layOrder ({ frames := 0, cells := 0, slots := 0, locals := 0 }) (va_Pc [.ref (b 0)] (ps dC dI cy ([(b 0, .inr (12, [.int 0, .int 0, .ref (b 1), .ref (b 2), .ref (b 3), .ref (b 4), .int 0, .ref (b 5), .ref (b 6), .int 0, .int 0, .int 0, .int (-1), .int 0, .ref (b 7), .ref (b 20), .int 0, .ref (b 21), .ref (b 22), .int 0, .int 0, .ref (b 23), .int 0, .int 0, .int 0, .int 0, .ref (b 24), .ref (b 25), .ref (b 26), .int 0, .ref (b 27), .int 0, .ref (b 28), .ref (b 29), .ref (b 30), .ref (b 31), .ref (b 32), .ref (b 33), .ref (b 34), .int 0, .int 0, .int 0, .int 0, .int 0, .int 0, .ref (b 35), .ref (b 36), .ref (b 37), .int 0, .int 0, .int 0, .ref (b 38), .int 0, .int 0, .ref (b 39), .ref (b 40), .ref (b 41), .ref (b 42), .int 0])), (b 2, .inl (cy 0, 3408, .inl (upd (upd (upd (fun _ => 0) 3264 1) 0 1) 2 (-1))))]) sz)) (va_Qv (fun (_ : uS) => True) (fun (_ : uS) (t : State) => va_P (dC, dI) vwCl ([(b 0, .inr (12, [.int 0, .int 0, .ref (b 1), .ref (b 2), .ref (b 3), .ref (b 4), .int 0, .ref (b 5), .ref (b 6), .int 0, .int 0, .int 0, .int (-1), .int 0, .ref (b 7), .ref (b 20), .int 0, .ref (b 21), .ref (b 22), .int 0, .int 0, .ref (b 23), .int 0, .int 0, .int 0, .int 0, .ref (b 24), .ref (b 25), .ref (b 26), .int 0, .ref (b 27), .int 0, .ref (b 28), .ref (b 29), .ref (b 30), .ref (b 31), .ref (b 32), .ref (b 33), .ref (b 34), .int 0, .int 0, .int 0, .int 0, .int 0, .int 0, .ref (b 35), .ref (b 36), .ref (b 37), .int 0, .int 0, .int 0, .ref (b 38), .int 0, .int 0, .ref (b 39), .ref (b 40), .ref (b 41), .ref (b 42), .int 0])), (b 2, .inl (cy 0, 3408, .inl (upd (upd (upd (fun _ => 0) 3264 1) 0 1) 2 (-1))))]) t.heap ∧ va_D (va_A ([(b 0, .inr (12, [.int 0, .int 0, .ref (b 1), .ref (b 2), .ref (b 3), .ref (b 4), .int 0, .ref (b 5), .ref (b 6), .int 0, .int 0, .int 0, .int (-1), .int 0, .ref (b 7), .ref (b 20), .int 0, .ref (b 21), .ref (b 22), .int 0, .int 0, .ref (b 23), .int 0, .int 0, .int 0, .int 0, .ref (b 24), .ref (b 25), .ref (b 26), .int 0, .ref (b 27), .int 0, .ref (b 28), .ref (b 29), .ref (b 30), .ref (b 31), .ref (b 32), .ref (b 33), .ref (b 34), .int 0, .int 0, .int 0, .int 0, .int 0, .int 0, .ref (b 35), .ref (b 36), .ref (b 37), .int 0, .int 0, .int 0, .ref (b 38), .int 0, .int 0, .ref (b 39), .ref (b 40), .ref (b 41), .ref (b 42), .int 0])), (b 2, .inl (cy 0, 3408, .inl (upd (upd (upd (fun _ => 0) 3264 1) 0 1) 2 (-1))))]) sz) ([(b 0, .inr (12, [.int 0, .int 0, .ref (b 1), .ref (b 2), .ref (b 3), .ref (b 4), .int 0, .ref (b 5), .ref (b 6), .int 0, .int 0, .int 0, .int (-1), .int 0, .ref (b 7), .ref (b 20), .int 0, .ref (b 21), .ref (b 22), .int 0, .int 0, .ref (b 23), .int 0, .int 0, .int 0, .int 0, .ref (b 24), .ref (b 25), .ref (b 26), .int 0, .ref (b 27), .int 0, .ref (b 28), .ref (b 29), .ref (b 30), .ref (b 31), .ref (b 32), .ref (b 33), .ref (b 34), .int 0, .int 0, .int 0, .int 0, .int 0, .int 0, .ref (b 35), .ref (b 36), .ref (b 37), .int 0, .int 0, .int 0, .ref (b 38), .int 0, .int 0, .ref (b 39), .ref (b 40), .ref (b 41), .ref (b 42), .int 0])), (b 2, .inl (cy 0, 3408, .inl (upd (upd (upd (fun _ => 0) 3264 1) 0 1) 2 (-1))))])) (va_A ([(b 0, .inr (12, [.int 0, .int 0, .ref (b 1), .ref (b 2), .ref (b 3), .ref (b 4), .int 0, .ref (b 5), .ref (b 6), .int 0, .int 0, .int 0, .int (-1), .int 0, .ref (b 7), .ref (b 20), .int 0, .ref (b 21), .ref (b 22), .int 0, .int 0, .ref (b 23), .int 0, .int 0, .int 0, .int 0, .ref (b 24), .ref (b 25), .ref (b 26), .int 0, .ref (b 27), .int 0, .ref (b 28), .ref (b 29), .ref (b 30), .ref (b 31), .ref (b 32), .ref (b 33), .ref (b 34), .int 0, .int 0, .int 0, .int 0, .int 0, .int 0, .ref (b 35), .ref (b 36), .ref (b 37), .int 0, .int 0, .int 0, .ref (b 38), .int 0, .int 0, .ref (b 39), .ref (b 40), .ref (b 41), .ref (b 42), .int 0])), (b 2, .inl (cy 0, 3408, .inl (upd (upd (upd (fun _ => 0) 3264 1) 0 1) 2 (-1))))]) sz)) 0 0 (va_A ([(b 0, .inr (12, [.int 0, .int 0, .ref (b 1), .ref (b 2), .ref (b 3), .ref (b 4), .int 0, .ref (b 5), .ref (b 6), .int 0, .int 0, .int 0, .int (-1), .int 0, .ref (b 7), .ref (b 20), .int 0, .ref (b 21), .ref (b 22), .int 0, .int 0, .ref (b 23), .int 0, .int 0, .int 0, .int 0, .ref (b 24), .ref (b 25), .ref (b 26), .int 0, .ref (b 27), .int 0, .ref (b 28), .ref (b 29), .ref (b 30), .ref (b 31), .ref (b 32), .ref (b 33), .ref (b 34), .int 0, .int 0, .int 0, .int 0, .int 0, .int 0, .ref (b 35), .ref (b 36), .ref (b 37), .int 0, .int 0, .int 0, .ref (b 38), .int 0, .int 0, .ref (b 39), .ref (b 40), .ref (b 41), .ref (b 42), .int 0])), (b 2, .inl (cy 0, 3408, .inl (upd (upd (upd (fun _ => 0) 3264 1) 0 1) 2 (-1))))]) sz) := by
  refine Met.ofW (cc := cX12_layOrder) (maxL := 3) (ret := none) (by decide) rfl ?_
  intro p e s m args below meth c s₁ B hml hv
  obtain ⟨rfl, hsz, hP, hC, hD0⟩ := hv
  have hK := hC.1
  have hx := B.exec
  have hb := B.bytes
  have hr := B.returns
  have hts := atoms_spec (ws := v_X12_layOrder) B.pre
  have hown : s.vm.findClass RX12 = some m.cls := findClass_of_methodNamed B.named
  have hlocks := B.notSynchronized
  subst hsz
  have hD := hD0.self (sz := s.heap.size)
  generalize hAe : va_A ([(b 0, .inr (12, [.int 0, .int 0, .ref (b 1), .ref (b 2), .ref (b 3), .ref (b 4), .int 0, .ref (b 5), .ref (b 6), .int 0, .int 0, .int 0, .int (-1), .int 0, .ref (b 7), .ref (b 20), .int 0, .ref (b 21), .ref (b 22), .int 0, .int 0, .ref (b 23), .int 0, .int 0, .int 0, .int 0, .ref (b 24), .ref (b 25), .ref (b 26), .int 0, .ref (b 27), .int 0, .ref (b 28), .ref (b 29), .ref (b 30), .ref (b 31), .ref (b 32), .ref (b 33), .ref (b 34), .int 0, .int 0, .int 0, .int 0, .int 0, .int 0, .ref (b 35), .ref (b 36), .ref (b 37), .int 0, .int 0, .int 0, .ref (b 38), .int 0, .int 0, .ref (b 39), .ref (b 40), .ref (b 41), .ref (b 42), .int 0])), (b 2, .inl (cy 0, 3408, .inl (upd (upd (upd (fun _ => 0) 3264 1) 0 1) 2 (-1))))]) s.heap.size = A at hD ⊢
  have hA : ∀ q : Nat, s.heap.size ≤ q → A q := fun q h => by rw [← hAe]; exact Or.inr h
  have hS : va_S A s.heap s.heap [] := va_S.rf
  have hl := lv_entry ([.ref (b 0)]) (n := 3) (Nat.le_of_ble_eq_true rfl)
  rw [lg_entry_eq]
  generalize (lg_sl ([.ref (b 0)]) ++ List.replicate (3 - (lg_sl ([.ref (b 0)])).length) Slot.unset).toArray = ls at hl ⊢
  have hl : lv_has ls 3 [(0, .ref (b 0))] := hl
  refine lv_aload_n hx hb dX12_layOrder_0 rfl (lv_at hl 0 rfl) ?_
  refine lv_iconst (v := 0) hx hb dX12_layOrder_1 (by decide) ?_
  refine va_put (D := (dC, dI)) (ci := 12) (v := .int 0) (ty := .int) (C := RX12) (T := TX12) (N := 59) hx hb hts i_X12_layOrder_X12 tyX12 tyX12_ok nmX12 hown hK hP hD hS 0 rfl rfl 58 (by decide) (hts _ m_X12_layOrder_0) (fun _ h9 => h9) rfl (by decide +kernel) rfl rfl (Nat.le_of_ble_eq_true rfl) dX12_layOrder_2 (fun H locs hP hD hS => ?_)
  have hP : va_P (dC, dI) vwCl ([(b 0, .inr (12, [.int 0, .int 0, .ref (b 1), .ref (b 2), .ref (b 3), .ref (b 4), .int 0, .ref (b 5), .ref (b 6), .int 0, .int 0, .int 0, .int (-1), .int 0, .ref (b 7), .ref (b 20), .int 0, .ref (b 21), .ref (b 22), .int 0, .int 0, .ref (b 23), .int 0, .int 0, .int 0, .int 0, .ref (b 24), .ref (b 25), .ref (b 26), .int 0, .ref (b 27), .int 0, .ref (b 28), .ref (b 29), .ref (b 30), .ref (b 31), .ref (b 32), .ref (b 33), .ref (b 34), .int 0, .int 0, .int 0, .int 0, .int 0, .int 0, .ref (b 35), .ref (b 36), .ref (b 37), .int 0, .int 0, .int 0, .ref (b 38), .int 0, .int 0, .ref (b 39), .ref (b 40), .ref (b 41), .ref (b 42), .int 0])), (b 2, .inl (cy 0, 3408, .inl (upd (upd (upd (fun _ => 0) 3264 1) 0 1) 2 (-1))))]) H := hP
  have hD : va_D A ([(b 0, .inr (12, [.int 0, .int 0, .ref (b 1), .ref (b 2), .ref (b 3), .ref (b 4), .int 0, .ref (b 5), .ref (b 6), .int 0, .int 0, .int 0, .int (-1), .int 0, .ref (b 7), .ref (b 20), .int 0, .ref (b 21), .ref (b 22), .int 0, .int 0, .ref (b 23), .int 0, .int 0, .int 0, .int 0, .ref (b 24), .ref (b 25), .ref (b 26), .int 0, .ref (b 27), .int 0, .ref (b 28), .ref (b 29), .ref (b 30), .ref (b 31), .ref (b 32), .ref (b 33), .ref (b 34), .int 0, .int 0, .int 0, .int 0, .int 0, .int 0, .ref (b 35), .ref (b 36), .ref (b 37), .int 0, .int 0, .int 0, .ref (b 38), .int 0, .int 0, .ref (b 39), .ref (b 40), .ref (b 41), .ref (b 42), .int 0])), (b 2, .inl (cy 0, 3408, .inl (upd (upd (upd (fun _ => 0) 3264 1) 0 1) 2 (-1))))]) := hD
  refine lv_bipush (v := 32) hx hb dX12_layOrder_5 (by decide) ?_
  refine lv_istore_n (lv' := [(1, .int 32), (0, .ref (b 0))]) hx hb dX12_layOrder_7 rfl hl (by decide) rfl (fun ls hl => ?_)
  refine lv_iload_n hx hb dX12_layOrder_8 rfl (lv_at hl 0 rfl) ?_
  refine lv_if_le (tgt := 77) hx hb dX12_layOrder_9 (by decide) (fun c9_ => absurd c9_ (by decide)) (fun _ => ?_)
  refine lv_aload_n hx hb dX12_layOrder_12 rfl (lv_at hl 1 rfl) ?_
  refine va_get (D := (dC, dI)) (ci := 12) (v := .ref (b 2)) (C := RX12) (T := TX12) (N := 59) hx hb hts i_X12_layOrder_X12 hown hK hP 0 rfl rfl 3 (by decide) (hts _ m_X12_layOrder_1) (fun _ h9 => h9) rfl dX12_layOrder_13 ?_
  refine lv_sipush (v := 3264) hx hb dX12_layOrder_16 (by decide) ?_
  refine va_iald hx hb hK hP 1 0 rfl rfl (show ¬ ((3264 : Int32) < 0 ∨ 3408 ≤ Int32.toNatClampNeg 3264) by decide) dX12_layOrder_19 ?_
  refine tk_i 1 (by rfl) ?_
  refine lv_iconst (v := 1) hx hb dX12_layOrder_20 (by decide) ?_
  refine lv_isub hx hb dX12_layOrder_21 ?_
  refine tk_i 0 (by decide) ?_
  refine lv_istore_n (lv' := [(2, .int 0), (1, .int 32), (0, .ref (b 0))]) hx hb dX12_layOrder_22 rfl hl (by decide) rfl (fun ls hl => ?_)
  refine lv_iload_n hx hb dX12_layOrder_23 rfl (lv_at hl 0 rfl) ?_
  refine lv_if_le (tgt := 71) hx hb dX12_layOrder_24 (by decide) (fun _ => ?_) (fun c9_ => absurd (by decide) c9_)
  refine lv_iinc (v := 31) (lv' := [(1, .int 31), (2, .int 0), (0, .ref (b 0))]) hx hb dX12_layOrder_71 hl (k := 1) rfl (by decide) (by decide) rfl (fun ls hl => ?_)
  refine lv_goto (tgt := 8) hx hb dX12_layOrder_74 (by decide) ?_
  refine lv_iload_n hx hb dX12_layOrder_8 rfl (lv_at hl 0 rfl) ?_
  refine lv_if_le (tgt := 77) hx hb dX12_layOrder_9 (by decide) (fun c9_ => absurd c9_ (by decide)) (fun _ => ?_)
  refine lv_aload_n hx hb dX12_layOrder_12 rfl (lv_at hl 2 rfl) ?_
  refine va_get (D := (dC, dI)) (ci := 12) (v := .ref (b 2)) (C := RX12) (T := TX12) (N := 59) hx hb hts i_X12_layOrder_X12 hown hK hP 0 rfl rfl 3 (by decide) (hts _ m_X12_layOrder_1) (fun _ h9 => h9) rfl dX12_layOrder_13 ?_
  refine lv_sipush (v := 3264) hx hb dX12_layOrder_16 (by decide) ?_
  refine va_iald hx hb hK hP 1 0 rfl rfl (show ¬ ((3264 : Int32) < 0 ∨ 3408 ≤ Int32.toNatClampNeg 3264) by decide) dX12_layOrder_19 ?_
  refine tk_i 1 (by rfl) ?_
  refine lv_iconst (v := 1) hx hb dX12_layOrder_20 (by decide) ?_
  refine lv_isub hx hb dX12_layOrder_21 ?_
  refine tk_i 0 (by decide) ?_
  refine lv_istore_n (lv' := [(2, .int 0), (1, .int 31), (0, .ref (b 0))]) hx hb dX12_layOrder_22 rfl hl (by decide) rfl (fun ls hl => ?_)
  refine lv_iload_n hx hb dX12_layOrder_23 rfl (lv_at hl 0 rfl) ?_
  refine lv_if_le (tgt := 71) hx hb dX12_layOrder_24 (by decide) (fun _ => ?_) (fun c9_ => absurd (by decide) c9_)
  refine lv_iinc (v := 30) (lv' := [(1, .int 30), (2, .int 0), (0, .ref (b 0))]) hx hb dX12_layOrder_71 hl (k := 1) rfl (by decide) (by decide) rfl (fun ls hl => ?_)
  refine lv_goto (tgt := 8) hx hb dX12_layOrder_74 (by decide) ?_
  refine lv_iload_n hx hb dX12_layOrder_8 rfl (lv_at hl 0 rfl) ?_
  refine lv_if_le (tgt := 77) hx hb dX12_layOrder_9 (by decide) (fun c9_ => absurd c9_ (by decide)) (fun _ => ?_)
  refine lv_aload_n hx hb dX12_layOrder_12 rfl (lv_at hl 2 rfl) ?_
  refine va_get (D := (dC, dI)) (ci := 12) (v := .ref (b 2)) (C := RX12) (T := TX12) (N := 59) hx hb hts i_X12_layOrder_X12 hown hK hP 0 rfl rfl 3 (by decide) (hts _ m_X12_layOrder_1) (fun _ h9 => h9) rfl dX12_layOrder_13 ?_
  refine lv_sipush (v := 3264) hx hb dX12_layOrder_16 (by decide) ?_
  refine va_iald hx hb hK hP 1 0 rfl rfl (show ¬ ((3264 : Int32) < 0 ∨ 3408 ≤ Int32.toNatClampNeg 3264) by decide) dX12_layOrder_19 ?_
  refine tk_i 1 (by rfl) ?_
  refine lv_iconst (v := 1) hx hb dX12_layOrder_20 (by decide) ?_
  refine lv_isub hx hb dX12_layOrder_21 ?_
  refine tk_i 0 (by decide) ?_
  refine lv_istore_n (lv' := [(2, .int 0), (1, .int 30), (0, .ref (b 0))]) hx hb dX12_layOrder_22 rfl hl (by decide) rfl (fun ls hl => ?_)
  refine lv_iload_n hx hb dX12_layOrder_23 rfl (lv_at hl 0 rfl) ?_
  refine lv_if_le (tgt := 71) hx hb dX12_layOrder_24 (by decide) (fun _ => ?_) (fun c9_ => absurd (by decide) c9_)
  refine lv_iinc (v := 29) (lv' := [(1, .int 29), (2, .int 0), (0, .ref (b 0))]) hx hb dX12_layOrder_71 hl (k := 1) rfl (by decide) (by decide) rfl (fun ls hl => ?_)
  refine lv_goto (tgt := 8) hx hb dX12_layOrder_74 (by decide) ?_
  refine lv_iload_n hx hb dX12_layOrder_8 rfl (lv_at hl 0 rfl) ?_
  refine lv_if_le (tgt := 77) hx hb dX12_layOrder_9 (by decide) (fun c9_ => absurd c9_ (by decide)) (fun _ => ?_)
  refine lv_aload_n hx hb dX12_layOrder_12 rfl (lv_at hl 2 rfl) ?_
  refine va_get (D := (dC, dI)) (ci := 12) (v := .ref (b 2)) (C := RX12) (T := TX12) (N := 59) hx hb hts i_X12_layOrder_X12 hown hK hP 0 rfl rfl 3 (by decide) (hts _ m_X12_layOrder_1) (fun _ h9 => h9) rfl dX12_layOrder_13 ?_
  refine lv_sipush (v := 3264) hx hb dX12_layOrder_16 (by decide) ?_
  refine va_iald hx hb hK hP 1 0 rfl rfl (show ¬ ((3264 : Int32) < 0 ∨ 3408 ≤ Int32.toNatClampNeg 3264) by decide) dX12_layOrder_19 ?_
  refine tk_i 1 (by rfl) ?_
  refine lv_iconst (v := 1) hx hb dX12_layOrder_20 (by decide) ?_
  refine lv_isub hx hb dX12_layOrder_21 ?_
  refine tk_i 0 (by decide) ?_
  refine lv_istore_n (lv' := [(2, .int 0), (1, .int 29), (0, .ref (b 0))]) hx hb dX12_layOrder_22 rfl hl (by decide) rfl (fun ls hl => ?_)
  refine lv_iload_n hx hb dX12_layOrder_23 rfl (lv_at hl 0 rfl) ?_
  refine lv_if_le (tgt := 71) hx hb dX12_layOrder_24 (by decide) (fun _ => ?_) (fun c9_ => absurd (by decide) c9_)
  refine lv_iinc (v := 28) (lv' := [(1, .int 28), (2, .int 0), (0, .ref (b 0))]) hx hb dX12_layOrder_71 hl (k := 1) rfl (by decide) (by decide) rfl (fun ls hl => ?_)
  refine lv_goto (tgt := 8) hx hb dX12_layOrder_74 (by decide) ?_
  refine lv_iload_n hx hb dX12_layOrder_8 rfl (lv_at hl 0 rfl) ?_
  refine lv_if_le (tgt := 77) hx hb dX12_layOrder_9 (by decide) (fun c9_ => absurd c9_ (by decide)) (fun _ => ?_)
  refine lv_aload_n hx hb dX12_layOrder_12 rfl (lv_at hl 2 rfl) ?_
  refine va_get (D := (dC, dI)) (ci := 12) (v := .ref (b 2)) (C := RX12) (T := TX12) (N := 59) hx hb hts i_X12_layOrder_X12 hown hK hP 0 rfl rfl 3 (by decide) (hts _ m_X12_layOrder_1) (fun _ h9 => h9) rfl dX12_layOrder_13 ?_
  refine lv_sipush (v := 3264) hx hb dX12_layOrder_16 (by decide) ?_
  refine va_iald hx hb hK hP 1 0 rfl rfl (show ¬ ((3264 : Int32) < 0 ∨ 3408 ≤ Int32.toNatClampNeg 3264) by decide) dX12_layOrder_19 ?_
  refine tk_i 1 (by rfl) ?_
  refine lv_iconst (v := 1) hx hb dX12_layOrder_20 (by decide) ?_
  refine lv_isub hx hb dX12_layOrder_21 ?_
  refine tk_i 0 (by decide) ?_
  refine lv_istore_n (lv' := [(2, .int 0), (1, .int 28), (0, .ref (b 0))]) hx hb dX12_layOrder_22 rfl hl (by decide) rfl (fun ls hl => ?_)
  refine lv_iload_n hx hb dX12_layOrder_23 rfl (lv_at hl 0 rfl) ?_
  refine lv_if_le (tgt := 71) hx hb dX12_layOrder_24 (by decide) (fun _ => ?_) (fun c9_ => absurd (by decide) c9_)
  refine lv_iinc (v := 27) (lv' := [(1, .int 27), (2, .int 0), (0, .ref (b 0))]) hx hb dX12_layOrder_71 hl (k := 1) rfl (by decide) (by decide) rfl (fun ls hl => ?_)
  refine lv_goto (tgt := 8) hx hb dX12_layOrder_74 (by decide) ?_
  refine lv_iload_n hx hb dX12_layOrder_8 rfl (lv_at hl 0 rfl) ?_
  refine lv_if_le (tgt := 77) hx hb dX12_layOrder_9 (by decide) (fun c9_ => absurd c9_ (by decide)) (fun _ => ?_)
  refine lv_aload_n hx hb dX12_layOrder_12 rfl (lv_at hl 2 rfl) ?_
  refine va_get (D := (dC, dI)) (ci := 12) (v := .ref (b 2)) (C := RX12) (T := TX12) (N := 59) hx hb hts i_X12_layOrder_X12 hown hK hP 0 rfl rfl 3 (by decide) (hts _ m_X12_layOrder_1) (fun _ h9 => h9) rfl dX12_layOrder_13 ?_
  refine lv_sipush (v := 3264) hx hb dX12_layOrder_16 (by decide) ?_
  refine va_iald hx hb hK hP 1 0 rfl rfl (show ¬ ((3264 : Int32) < 0 ∨ 3408 ≤ Int32.toNatClampNeg 3264) by decide) dX12_layOrder_19 ?_
  refine tk_i 1 (by rfl) ?_
  refine lv_iconst (v := 1) hx hb dX12_layOrder_20 (by decide) ?_
  refine lv_isub hx hb dX12_layOrder_21 ?_
  refine tk_i 0 (by decide) ?_
  refine lv_istore_n (lv' := [(2, .int 0), (1, .int 27), (0, .ref (b 0))]) hx hb dX12_layOrder_22 rfl hl (by decide) rfl (fun ls hl => ?_)
  refine lv_iload_n hx hb dX12_layOrder_23 rfl (lv_at hl 0 rfl) ?_
  refine lv_if_le (tgt := 71) hx hb dX12_layOrder_24 (by decide) (fun _ => ?_) (fun c9_ => absurd (by decide) c9_)
  refine lv_iinc (v := 26) (lv' := [(1, .int 26), (2, .int 0), (0, .ref (b 0))]) hx hb dX12_layOrder_71 hl (k := 1) rfl (by decide) (by decide) rfl (fun ls hl => ?_)
  refine lv_goto (tgt := 8) hx hb dX12_layOrder_74 (by decide) ?_
  refine lv_iload_n hx hb dX12_layOrder_8 rfl (lv_at hl 0 rfl) ?_
  refine lv_if_le (tgt := 77) hx hb dX12_layOrder_9 (by decide) (fun c9_ => absurd c9_ (by decide)) (fun _ => ?_)
  refine lv_aload_n hx hb dX12_layOrder_12 rfl (lv_at hl 2 rfl) ?_
  refine va_get (D := (dC, dI)) (ci := 12) (v := .ref (b 2)) (C := RX12) (T := TX12) (N := 59) hx hb hts i_X12_layOrder_X12 hown hK hP 0 rfl rfl 3 (by decide) (hts _ m_X12_layOrder_1) (fun _ h9 => h9) rfl dX12_layOrder_13 ?_
  refine lv_sipush (v := 3264) hx hb dX12_layOrder_16 (by decide) ?_
  refine va_iald hx hb hK hP 1 0 rfl rfl (show ¬ ((3264 : Int32) < 0 ∨ 3408 ≤ Int32.toNatClampNeg 3264) by decide) dX12_layOrder_19 ?_
  refine tk_i 1 (by rfl) ?_
  refine lv_iconst (v := 1) hx hb dX12_layOrder_20 (by decide) ?_
  refine lv_isub hx hb dX12_layOrder_21 ?_
  refine tk_i 0 (by decide) ?_
  refine lv_istore_n (lv' := [(2, .int 0), (1, .int 26), (0, .ref (b 0))]) hx hb dX12_layOrder_22 rfl hl (by decide) rfl (fun ls hl => ?_)
  refine lv_iload_n hx hb dX12_layOrder_23 rfl (lv_at hl 0 rfl) ?_
  refine lv_if_le (tgt := 71) hx hb dX12_layOrder_24 (by decide) (fun _ => ?_) (fun c9_ => absurd (by decide) c9_)
  refine lv_iinc (v := 25) (lv' := [(1, .int 25), (2, .int 0), (0, .ref (b 0))]) hx hb dX12_layOrder_71 hl (k := 1) rfl (by decide) (by decide) rfl (fun ls hl => ?_)
  refine lv_goto (tgt := 8) hx hb dX12_layOrder_74 (by decide) ?_
  refine lv_iload_n hx hb dX12_layOrder_8 rfl (lv_at hl 0 rfl) ?_
  refine lv_if_le (tgt := 77) hx hb dX12_layOrder_9 (by decide) (fun c9_ => absurd c9_ (by decide)) (fun _ => ?_)
  refine lv_aload_n hx hb dX12_layOrder_12 rfl (lv_at hl 2 rfl) ?_
  refine va_get (D := (dC, dI)) (ci := 12) (v := .ref (b 2)) (C := RX12) (T := TX12) (N := 59) hx hb hts i_X12_layOrder_X12 hown hK hP 0 rfl rfl 3 (by decide) (hts _ m_X12_layOrder_1) (fun _ h9 => h9) rfl dX12_layOrder_13 ?_
  refine lv_sipush (v := 3264) hx hb dX12_layOrder_16 (by decide) ?_
  refine va_iald hx hb hK hP 1 0 rfl rfl (show ¬ ((3264 : Int32) < 0 ∨ 3408 ≤ Int32.toNatClampNeg 3264) by decide) dX12_layOrder_19 ?_
  refine tk_i 1 (by rfl) ?_
  refine lv_iconst (v := 1) hx hb dX12_layOrder_20 (by decide) ?_
  refine lv_isub hx hb dX12_layOrder_21 ?_
  refine tk_i 0 (by decide) ?_
  refine lv_istore_n (lv' := [(2, .int 0), (1, .int 25), (0, .ref (b 0))]) hx hb dX12_layOrder_22 rfl hl (by decide) rfl (fun ls hl => ?_)
  refine lv_iload_n hx hb dX12_layOrder_23 rfl (lv_at hl 0 rfl) ?_
  refine lv_if_le (tgt := 71) hx hb dX12_layOrder_24 (by decide) (fun _ => ?_) (fun c9_ => absurd (by decide) c9_)
  refine lv_iinc (v := 24) (lv' := [(1, .int 24), (2, .int 0), (0, .ref (b 0))]) hx hb dX12_layOrder_71 hl (k := 1) rfl (by decide) (by decide) rfl (fun ls hl => ?_)
  refine lv_goto (tgt := 8) hx hb dX12_layOrder_74 (by decide) ?_
  refine lv_iload_n hx hb dX12_layOrder_8 rfl (lv_at hl 0 rfl) ?_
  refine lv_if_le (tgt := 77) hx hb dX12_layOrder_9 (by decide) (fun c9_ => absurd c9_ (by decide)) (fun _ => ?_)
  refine lv_aload_n hx hb dX12_layOrder_12 rfl (lv_at hl 2 rfl) ?_
  refine va_get (D := (dC, dI)) (ci := 12) (v := .ref (b 2)) (C := RX12) (T := TX12) (N := 59) hx hb hts i_X12_layOrder_X12 hown hK hP 0 rfl rfl 3 (by decide) (hts _ m_X12_layOrder_1) (fun _ h9 => h9) rfl dX12_layOrder_13 ?_
  refine lv_sipush (v := 3264) hx hb dX12_layOrder_16 (by decide) ?_
  refine va_iald hx hb hK hP 1 0 rfl rfl (show ¬ ((3264 : Int32) < 0 ∨ 3408 ≤ Int32.toNatClampNeg 3264) by decide) dX12_layOrder_19 ?_
  refine tk_i 1 (by rfl) ?_
  refine lv_iconst (v := 1) hx hb dX12_layOrder_20 (by decide) ?_
  refine lv_isub hx hb dX12_layOrder_21 ?_
  refine tk_i 0 (by decide) ?_
  refine lv_istore_n (lv' := [(2, .int 0), (1, .int 24), (0, .ref (b 0))]) hx hb dX12_layOrder_22 rfl hl (by decide) rfl (fun ls hl => ?_)
  refine lv_iload_n hx hb dX12_layOrder_23 rfl (lv_at hl 0 rfl) ?_
  refine lv_if_le (tgt := 71) hx hb dX12_layOrder_24 (by decide) (fun _ => ?_) (fun c9_ => absurd (by decide) c9_)
  refine lv_iinc (v := 23) (lv' := [(1, .int 23), (2, .int 0), (0, .ref (b 0))]) hx hb dX12_layOrder_71 hl (k := 1) rfl (by decide) (by decide) rfl (fun ls hl => ?_)
  refine lv_goto (tgt := 8) hx hb dX12_layOrder_74 (by decide) ?_
  refine lv_iload_n hx hb dX12_layOrder_8 rfl (lv_at hl 0 rfl) ?_
  refine lv_if_le (tgt := 77) hx hb dX12_layOrder_9 (by decide) (fun c9_ => absurd c9_ (by decide)) (fun _ => ?_)
  refine lv_aload_n hx hb dX12_layOrder_12 rfl (lv_at hl 2 rfl) ?_
  refine va_get (D := (dC, dI)) (ci := 12) (v := .ref (b 2)) (C := RX12) (T := TX12) (N := 59) hx hb hts i_X12_layOrder_X12 hown hK hP 0 rfl rfl 3 (by decide) (hts _ m_X12_layOrder_1) (fun _ h9 => h9) rfl dX12_layOrder_13 ?_
  refine lv_sipush (v := 3264) hx hb dX12_layOrder_16 (by decide) ?_
  refine va_iald hx hb hK hP 1 0 rfl rfl (show ¬ ((3264 : Int32) < 0 ∨ 3408 ≤ Int32.toNatClampNeg 3264) by decide) dX12_layOrder_19 ?_
  refine tk_i 1 (by rfl) ?_
  refine lv_iconst (v := 1) hx hb dX12_layOrder_20 (by decide) ?_
  refine lv_isub hx hb dX12_layOrder_21 ?_
  refine tk_i 0 (by decide) ?_
  refine lv_istore_n (lv' := [(2, .int 0), (1, .int 23), (0, .ref (b 0))]) hx hb dX12_layOrder_22 rfl hl (by decide) rfl (fun ls hl => ?_)
  refine lv_iload_n hx hb dX12_layOrder_23 rfl (lv_at hl 0 rfl) ?_
  refine lv_if_le (tgt := 71) hx hb dX12_layOrder_24 (by decide) (fun _ => ?_) (fun c9_ => absurd (by decide) c9_)
  refine lv_iinc (v := 22) (lv' := [(1, .int 22), (2, .int 0), (0, .ref (b 0))]) hx hb dX12_layOrder_71 hl (k := 1) rfl (by decide) (by decide) rfl (fun ls hl => ?_)
  refine lv_goto (tgt := 8) hx hb dX12_layOrder_74 (by decide) ?_
  refine lv_iload_n hx hb dX12_layOrder_8 rfl (lv_at hl 0 rfl) ?_
  refine lv_if_le (tgt := 77) hx hb dX12_layOrder_9 (by decide) (fun c9_ => absurd c9_ (by decide)) (fun _ => ?_)
  refine lv_aload_n hx hb dX12_layOrder_12 rfl (lv_at hl 2 rfl) ?_
  refine va_get (D := (dC, dI)) (ci := 12) (v := .ref (b 2)) (C := RX12) (T := TX12) (N := 59) hx hb hts i_X12_layOrder_X12 hown hK hP 0 rfl rfl 3 (by decide) (hts _ m_X12_layOrder_1) (fun _ h9 => h9) rfl dX12_layOrder_13 ?_
  refine lv_sipush (v := 3264) hx hb dX12_layOrder_16 (by decide) ?_
  refine va_iald hx hb hK hP 1 0 rfl rfl (show ¬ ((3264 : Int32) < 0 ∨ 3408 ≤ Int32.toNatClampNeg 3264) by decide) dX12_layOrder_19 ?_
  refine tk_i 1 (by rfl) ?_
  refine lv_iconst (v := 1) hx hb dX12_layOrder_20 (by decide) ?_
  refine lv_isub hx hb dX12_layOrder_21 ?_
  refine tk_i 0 (by decide) ?_
  refine lv_istore_n (lv' := [(2, .int 0), (1, .int 22), (0, .ref (b 0))]) hx hb dX12_layOrder_22 rfl hl (by decide) rfl (fun ls hl => ?_)
  refine lv_iload_n hx hb dX12_layOrder_23 rfl (lv_at hl 0 rfl) ?_
  refine lv_if_le (tgt := 71) hx hb dX12_layOrder_24 (by decide) (fun _ => ?_) (fun c9_ => absurd (by decide) c9_)
  refine lv_iinc (v := 21) (lv' := [(1, .int 21), (2, .int 0), (0, .ref (b 0))]) hx hb dX12_layOrder_71 hl (k := 1) rfl (by decide) (by decide) rfl (fun ls hl => ?_)
  refine lv_goto (tgt := 8) hx hb dX12_layOrder_74 (by decide) ?_
  refine lv_iload_n hx hb dX12_layOrder_8 rfl (lv_at hl 0 rfl) ?_
  refine lv_if_le (tgt := 77) hx hb dX12_layOrder_9 (by decide) (fun c9_ => absurd c9_ (by decide)) (fun _ => ?_)
  refine lv_aload_n hx hb dX12_layOrder_12 rfl (lv_at hl 2 rfl) ?_
  refine va_get (D := (dC, dI)) (ci := 12) (v := .ref (b 2)) (C := RX12) (T := TX12) (N := 59) hx hb hts i_X12_layOrder_X12 hown hK hP 0 rfl rfl 3 (by decide) (hts _ m_X12_layOrder_1) (fun _ h9 => h9) rfl dX12_layOrder_13 ?_
  refine lv_sipush (v := 3264) hx hb dX12_layOrder_16 (by decide) ?_
  refine va_iald hx hb hK hP 1 0 rfl rfl (show ¬ ((3264 : Int32) < 0 ∨ 3408 ≤ Int32.toNatClampNeg 3264) by decide) dX12_layOrder_19 ?_
  refine tk_i 1 (by rfl) ?_
  refine lv_iconst (v := 1) hx hb dX12_layOrder_20 (by decide) ?_
  refine lv_isub hx hb dX12_layOrder_21 ?_
  refine tk_i 0 (by decide) ?_
  refine lv_istore_n (lv' := [(2, .int 0), (1, .int 21), (0, .ref (b 0))]) hx hb dX12_layOrder_22 rfl hl (by decide) rfl (fun ls hl => ?_)
  refine lv_iload_n hx hb dX12_layOrder_23 rfl (lv_at hl 0 rfl) ?_
  refine lv_if_le (tgt := 71) hx hb dX12_layOrder_24 (by decide) (fun _ => ?_) (fun c9_ => absurd (by decide) c9_)
  refine lv_iinc (v := 20) (lv' := [(1, .int 20), (2, .int 0), (0, .ref (b 0))]) hx hb dX12_layOrder_71 hl (k := 1) rfl (by decide) (by decide) rfl (fun ls hl => ?_)
  refine lv_goto (tgt := 8) hx hb dX12_layOrder_74 (by decide) ?_
  refine lv_iload_n hx hb dX12_layOrder_8 rfl (lv_at hl 0 rfl) ?_
  refine lv_if_le (tgt := 77) hx hb dX12_layOrder_9 (by decide) (fun c9_ => absurd c9_ (by decide)) (fun _ => ?_)
  refine lv_aload_n hx hb dX12_layOrder_12 rfl (lv_at hl 2 rfl) ?_
  refine va_get (D := (dC, dI)) (ci := 12) (v := .ref (b 2)) (C := RX12) (T := TX12) (N := 59) hx hb hts i_X12_layOrder_X12 hown hK hP 0 rfl rfl 3 (by decide) (hts _ m_X12_layOrder_1) (fun _ h9 => h9) rfl dX12_layOrder_13 ?_
  refine lv_sipush (v := 3264) hx hb dX12_layOrder_16 (by decide) ?_
  refine va_iald hx hb hK hP 1 0 rfl rfl (show ¬ ((3264 : Int32) < 0 ∨ 3408 ≤ Int32.toNatClampNeg 3264) by decide) dX12_layOrder_19 ?_
  refine tk_i 1 (by rfl) ?_
  refine lv_iconst (v := 1) hx hb dX12_layOrder_20 (by decide) ?_
  refine lv_isub hx hb dX12_layOrder_21 ?_
  refine tk_i 0 (by decide) ?_
  refine lv_istore_n (lv' := [(2, .int 0), (1, .int 20), (0, .ref (b 0))]) hx hb dX12_layOrder_22 rfl hl (by decide) rfl (fun ls hl => ?_)
  refine lv_iload_n hx hb dX12_layOrder_23 rfl (lv_at hl 0 rfl) ?_
  refine lv_if_le (tgt := 71) hx hb dX12_layOrder_24 (by decide) (fun _ => ?_) (fun c9_ => absurd (by decide) c9_)
  refine lv_iinc (v := 19) (lv' := [(1, .int 19), (2, .int 0), (0, .ref (b 0))]) hx hb dX12_layOrder_71 hl (k := 1) rfl (by decide) (by decide) rfl (fun ls hl => ?_)
  refine lv_goto (tgt := 8) hx hb dX12_layOrder_74 (by decide) ?_
  refine lv_iload_n hx hb dX12_layOrder_8 rfl (lv_at hl 0 rfl) ?_
  refine lv_if_le (tgt := 77) hx hb dX12_layOrder_9 (by decide) (fun c9_ => absurd c9_ (by decide)) (fun _ => ?_)
  refine lv_aload_n hx hb dX12_layOrder_12 rfl (lv_at hl 2 rfl) ?_
  refine va_get (D := (dC, dI)) (ci := 12) (v := .ref (b 2)) (C := RX12) (T := TX12) (N := 59) hx hb hts i_X12_layOrder_X12 hown hK hP 0 rfl rfl 3 (by decide) (hts _ m_X12_layOrder_1) (fun _ h9 => h9) rfl dX12_layOrder_13 ?_
  refine lv_sipush (v := 3264) hx hb dX12_layOrder_16 (by decide) ?_
  refine va_iald hx hb hK hP 1 0 rfl rfl (show ¬ ((3264 : Int32) < 0 ∨ 3408 ≤ Int32.toNatClampNeg 3264) by decide) dX12_layOrder_19 ?_
  refine tk_i 1 (by rfl) ?_
  refine lv_iconst (v := 1) hx hb dX12_layOrder_20 (by decide) ?_
  refine lv_isub hx hb dX12_layOrder_21 ?_
  refine tk_i 0 (by decide) ?_
  refine lv_istore_n (lv' := [(2, .int 0), (1, .int 19), (0, .ref (b 0))]) hx hb dX12_layOrder_22 rfl hl (by decide) rfl (fun ls hl => ?_)
  refine lv_iload_n hx hb dX12_layOrder_23 rfl (lv_at hl 0 rfl) ?_
  refine lv_if_le (tgt := 71) hx hb dX12_layOrder_24 (by decide) (fun _ => ?_) (fun c9_ => absurd (by decide) c9_)
  refine lv_iinc (v := 18) (lv' := [(1, .int 18), (2, .int 0), (0, .ref (b 0))]) hx hb dX12_layOrder_71 hl (k := 1) rfl (by decide) (by decide) rfl (fun ls hl => ?_)
  refine lv_goto (tgt := 8) hx hb dX12_layOrder_74 (by decide) ?_
  refine lv_iload_n hx hb dX12_layOrder_8 rfl (lv_at hl 0 rfl) ?_
  refine lv_if_le (tgt := 77) hx hb dX12_layOrder_9 (by decide) (fun c9_ => absurd c9_ (by decide)) (fun _ => ?_)
  refine lv_aload_n hx hb dX12_layOrder_12 rfl (lv_at hl 2 rfl) ?_
  refine va_get (D := (dC, dI)) (ci := 12) (v := .ref (b 2)) (C := RX12) (T := TX12) (N := 59) hx hb hts i_X12_layOrder_X12 hown hK hP 0 rfl rfl 3 (by decide) (hts _ m_X12_layOrder_1) (fun _ h9 => h9) rfl dX12_layOrder_13 ?_
  refine lv_sipush (v := 3264) hx hb dX12_layOrder_16 (by decide) ?_
  refine va_iald hx hb hK hP 1 0 rfl rfl (show ¬ ((3264 : Int32) < 0 ∨ 3408 ≤ Int32.toNatClampNeg 3264) by decide) dX12_layOrder_19 ?_
  refine tk_i 1 (by rfl) ?_
  refine lv_iconst (v := 1) hx hb dX12_layOrder_20 (by decide) ?_
  refine lv_isub hx hb dX12_layOrder_21 ?_
  refine tk_i 0 (by decide) ?_
  refine lv_istore_n (lv' := [(2, .int 0), (1, .int 18), (0, .ref (b 0))]) hx hb dX12_layOrder_22 rfl hl (by decide) rfl (fun ls hl => ?_)
  refine lv_iload_n hx hb dX12_layOrder_23 rfl (lv_at hl 0 rfl) ?_
  refine lv_if_le (tgt := 71) hx hb dX12_layOrder_24 (by decide) (fun _ => ?_) (fun c9_ => absurd (by decide) c9_)
  refine lv_iinc (v := 17) (lv' := [(1, .int 17), (2, .int 0), (0, .ref (b 0))]) hx hb dX12_layOrder_71 hl (k := 1) rfl (by decide) (by decide) rfl (fun ls hl => ?_)
  refine lv_goto (tgt := 8) hx hb dX12_layOrder_74 (by decide) ?_
  refine lv_iload_n hx hb dX12_layOrder_8 rfl (lv_at hl 0 rfl) ?_
  refine lv_if_le (tgt := 77) hx hb dX12_layOrder_9 (by decide) (fun c9_ => absurd c9_ (by decide)) (fun _ => ?_)
  refine lv_aload_n hx hb dX12_layOrder_12 rfl (lv_at hl 2 rfl) ?_
  refine va_get (D := (dC, dI)) (ci := 12) (v := .ref (b 2)) (C := RX12) (T := TX12) (N := 59) hx hb hts i_X12_layOrder_X12 hown hK hP 0 rfl rfl 3 (by decide) (hts _ m_X12_layOrder_1) (fun _ h9 => h9) rfl dX12_layOrder_13 ?_
  refine lv_sipush (v := 3264) hx hb dX12_layOrder_16 (by decide) ?_
  refine va_iald hx hb hK hP 1 0 rfl rfl (show ¬ ((3264 : Int32) < 0 ∨ 3408 ≤ Int32.toNatClampNeg 3264) by decide) dX12_layOrder_19 ?_
  refine tk_i 1 (by rfl) ?_
  refine lv_iconst (v := 1) hx hb dX12_layOrder_20 (by decide) ?_
  refine lv_isub hx hb dX12_layOrder_21 ?_
  refine tk_i 0 (by decide) ?_
  refine lv_istore_n (lv' := [(2, .int 0), (1, .int 17), (0, .ref (b 0))]) hx hb dX12_layOrder_22 rfl hl (by decide) rfl (fun ls hl => ?_)
  refine lv_iload_n hx hb dX12_layOrder_23 rfl (lv_at hl 0 rfl) ?_
  refine lv_if_le (tgt := 71) hx hb dX12_layOrder_24 (by decide) (fun _ => ?_) (fun c9_ => absurd (by decide) c9_)
  refine lv_iinc (v := 16) (lv' := [(1, .int 16), (2, .int 0), (0, .ref (b 0))]) hx hb dX12_layOrder_71 hl (k := 1) rfl (by decide) (by decide) rfl (fun ls hl => ?_)
  refine lv_goto (tgt := 8) hx hb dX12_layOrder_74 (by decide) ?_
  refine lv_iload_n hx hb dX12_layOrder_8 rfl (lv_at hl 0 rfl) ?_
  refine lv_if_le (tgt := 77) hx hb dX12_layOrder_9 (by decide) (fun c9_ => absurd c9_ (by decide)) (fun _ => ?_)
  refine lv_aload_n hx hb dX12_layOrder_12 rfl (lv_at hl 2 rfl) ?_
  refine va_get (D := (dC, dI)) (ci := 12) (v := .ref (b 2)) (C := RX12) (T := TX12) (N := 59) hx hb hts i_X12_layOrder_X12 hown hK hP 0 rfl rfl 3 (by decide) (hts _ m_X12_layOrder_1) (fun _ h9 => h9) rfl dX12_layOrder_13 ?_
  refine lv_sipush (v := 3264) hx hb dX12_layOrder_16 (by decide) ?_
  refine va_iald hx hb hK hP 1 0 rfl rfl (show ¬ ((3264 : Int32) < 0 ∨ 3408 ≤ Int32.toNatClampNeg 3264) by decide) dX12_layOrder_19 ?_
  refine tk_i 1 (by rfl) ?_
  refine lv_iconst (v := 1) hx hb dX12_layOrder_20 (by decide) ?_
  refine lv_isub hx hb dX12_layOrder_21 ?_
  refine tk_i 0 (by decide) ?_
  refine lv_istore_n (lv' := [(2, .int 0), (1, .int 16), (0, .ref (b 0))]) hx hb dX12_layOrder_22 rfl hl (by decide) rfl (fun ls hl => ?_)
  refine lv_iload_n hx hb dX12_layOrder_23 rfl (lv_at hl 0 rfl) ?_
  refine lv_if_le (tgt := 71) hx hb dX12_layOrder_24 (by decide) (fun _ => ?_) (fun c9_ => absurd (by decide) c9_)
  refine lv_iinc (v := 15) (lv' := [(1, .int 15), (2, .int 0), (0, .ref (b 0))]) hx hb dX12_layOrder_71 hl (k := 1) rfl (by decide) (by decide) rfl (fun ls hl => ?_)
  refine lv_goto (tgt := 8) hx hb dX12_layOrder_74 (by decide) ?_
  refine lv_iload_n hx hb dX12_layOrder_8 rfl (lv_at hl 0 rfl) ?_
  refine lv_if_le (tgt := 77) hx hb dX12_layOrder_9 (by decide) (fun c9_ => absurd c9_ (by decide)) (fun _ => ?_)
  refine lv_aload_n hx hb dX12_layOrder_12 rfl (lv_at hl 2 rfl) ?_
  refine va_get (D := (dC, dI)) (ci := 12) (v := .ref (b 2)) (C := RX12) (T := TX12) (N := 59) hx hb hts i_X12_layOrder_X12 hown hK hP 0 rfl rfl 3 (by decide) (hts _ m_X12_layOrder_1) (fun _ h9 => h9) rfl dX12_layOrder_13 ?_
  refine lv_sipush (v := 3264) hx hb dX12_layOrder_16 (by decide) ?_
  refine va_iald hx hb hK hP 1 0 rfl rfl (show ¬ ((3264 : Int32) < 0 ∨ 3408 ≤ Int32.toNatClampNeg 3264) by decide) dX12_layOrder_19 ?_
  refine tk_i 1 (by rfl) ?_
  refine lv_iconst (v := 1) hx hb dX12_layOrder_20 (by decide) ?_
  refine lv_isub hx hb dX12_layOrder_21 ?_
  refine tk_i 0 (by decide) ?_
  refine lv_istore_n (lv' := [(2, .int 0), (1, .int 15), (0, .ref (b 0))]) hx hb dX12_layOrder_22 rfl hl (by decide) rfl (fun ls hl => ?_)
  refine lv_iload_n hx hb dX12_layOrder_23 rfl (lv_at hl 0 rfl) ?_
  refine lv_if_le (tgt := 71) hx hb dX12_layOrder_24 (by decide) (fun _ => ?_) (fun c9_ => absurd (by decide) c9_)
  refine lv_iinc (v := 14) (lv' := [(1, .int 14), (2, .int 0), (0, .ref (b 0))]) hx hb dX12_layOrder_71 hl (k := 1) rfl (by decide) (by decide) rfl (fun ls hl => ?_)
  refine lv_goto (tgt := 8) hx hb dX12_layOrder_74 (by decide) ?_
  refine lv_iload_n hx hb dX12_layOrder_8 rfl (lv_at hl 0 rfl) ?_
  refine lv_if_le (tgt := 77) hx hb dX12_layOrder_9 (by decide) (fun c9_ => absurd c9_ (by decide)) (fun _ => ?_)
  refine lv_aload_n hx hb dX12_layOrder_12 rfl (lv_at hl 2 rfl) ?_
  refine va_get (D := (dC, dI)) (ci := 12) (v := .ref (b 2)) (C := RX12) (T := TX12) (N := 59) hx hb hts i_X12_layOrder_X12 hown hK hP 0 rfl rfl 3 (by decide) (hts _ m_X12_layOrder_1) (fun _ h9 => h9) rfl dX12_layOrder_13 ?_
  refine lv_sipush (v := 3264) hx hb dX12_layOrder_16 (by decide) ?_
  refine va_iald hx hb hK hP 1 0 rfl rfl (show ¬ ((3264 : Int32) < 0 ∨ 3408 ≤ Int32.toNatClampNeg 3264) by decide) dX12_layOrder_19 ?_
  refine tk_i 1 (by rfl) ?_
  refine lv_iconst (v := 1) hx hb dX12_layOrder_20 (by decide) ?_
  refine lv_isub hx hb dX12_layOrder_21 ?_
  refine tk_i 0 (by decide) ?_
  refine lv_istore_n (lv' := [(2, .int 0), (1, .int 14), (0, .ref (b 0))]) hx hb dX12_layOrder_22 rfl hl (by decide) rfl (fun ls hl => ?_)
  refine lv_iload_n hx hb dX12_layOrder_23 rfl (lv_at hl 0 rfl) ?_
  refine lv_if_le (tgt := 71) hx hb dX12_layOrder_24 (by decide) (fun _ => ?_) (fun c9_ => absurd (by decide) c9_)
  refine lv_iinc (v := 13) (lv' := [(1, .int 13), (2, .int 0), (0, .ref (b 0))]) hx hb dX12_layOrder_71 hl (k := 1) rfl (by decide) (by decide) rfl (fun ls hl => ?_)
  refine lv_goto (tgt := 8) hx hb dX12_layOrder_74 (by decide) ?_
  refine lv_iload_n hx hb dX12_layOrder_8 rfl (lv_at hl 0 rfl) ?_
  refine lv_if_le (tgt := 77) hx hb dX12_layOrder_9 (by decide) (fun c9_ => absurd c9_ (by decide)) (fun _ => ?_)
  refine lv_aload_n hx hb dX12_layOrder_12 rfl (lv_at hl 2 rfl) ?_
  refine va_get (D := (dC, dI)) (ci := 12) (v := .ref (b 2)) (C := RX12) (T := TX12) (N := 59) hx hb hts i_X12_layOrder_X12 hown hK hP 0 rfl rfl 3 (by decide) (hts _ m_X12_layOrder_1) (fun _ h9 => h9) rfl dX12_layOrder_13 ?_
  refine lv_sipush (v := 3264) hx hb dX12_layOrder_16 (by decide) ?_
  refine va_iald hx hb hK hP 1 0 rfl rfl (show ¬ ((3264 : Int32) < 0 ∨ 3408 ≤ Int32.toNatClampNeg 3264) by decide) dX12_layOrder_19 ?_
  refine tk_i 1 (by rfl) ?_
  refine lv_iconst (v := 1) hx hb dX12_layOrder_20 (by decide) ?_
  refine lv_isub hx hb dX12_layOrder_21 ?_
  refine tk_i 0 (by decide) ?_
  refine lv_istore_n (lv' := [(2, .int 0), (1, .int 13), (0, .ref (b 0))]) hx hb dX12_layOrder_22 rfl hl (by decide) rfl (fun ls hl => ?_)
  refine lv_iload_n hx hb dX12_layOrder_23 rfl (lv_at hl 0 rfl) ?_
  refine lv_if_le (tgt := 71) hx hb dX12_layOrder_24 (by decide) (fun _ => ?_) (fun c9_ => absurd (by decide) c9_)
  refine lv_iinc (v := 12) (lv' := [(1, .int 12), (2, .int 0), (0, .ref (b 0))]) hx hb dX12_layOrder_71 hl (k := 1) rfl (by decide) (by decide) rfl (fun ls hl => ?_)
  refine lv_goto (tgt := 8) hx hb dX12_layOrder_74 (by decide) ?_
  refine lv_iload_n hx hb dX12_layOrder_8 rfl (lv_at hl 0 rfl) ?_
  refine lv_if_le (tgt := 77) hx hb dX12_layOrder_9 (by decide) (fun c9_ => absurd c9_ (by decide)) (fun _ => ?_)
  refine lv_aload_n hx hb dX12_layOrder_12 rfl (lv_at hl 2 rfl) ?_
  refine va_get (D := (dC, dI)) (ci := 12) (v := .ref (b 2)) (C := RX12) (T := TX12) (N := 59) hx hb hts i_X12_layOrder_X12 hown hK hP 0 rfl rfl 3 (by decide) (hts _ m_X12_layOrder_1) (fun _ h9 => h9) rfl dX12_layOrder_13 ?_
  refine lv_sipush (v := 3264) hx hb dX12_layOrder_16 (by decide) ?_
  refine va_iald hx hb hK hP 1 0 rfl rfl (show ¬ ((3264 : Int32) < 0 ∨ 3408 ≤ Int32.toNatClampNeg 3264) by decide) dX12_layOrder_19 ?_
  refine tk_i 1 (by rfl) ?_
  refine lv_iconst (v := 1) hx hb dX12_layOrder_20 (by decide) ?_
  refine lv_isub hx hb dX12_layOrder_21 ?_
  refine tk_i 0 (by decide) ?_
  refine lv_istore_n (lv' := [(2, .int 0), (1, .int 12), (0, .ref (b 0))]) hx hb dX12_layOrder_22 rfl hl (by decide) rfl (fun ls hl => ?_)
  refine lv_iload_n hx hb dX12_layOrder_23 rfl (lv_at hl 0 rfl) ?_
  refine lv_if_le (tgt := 71) hx hb dX12_layOrder_24 (by decide) (fun _ => ?_) (fun c9_ => absurd (by decide) c9_)
  refine lv_iinc (v := 11) (lv' := [(1, .int 11), (2, .int 0), (0, .ref (b 0))]) hx hb dX12_layOrder_71 hl (k := 1) rfl (by decide) (by decide) rfl (fun ls hl => ?_)
  refine lv_goto (tgt := 8) hx hb dX12_layOrder_74 (by decide) ?_
  refine lv_iload_n hx hb dX12_layOrder_8 rfl (lv_at hl 0 rfl) ?_
  refine lv_if_le (tgt := 77) hx hb dX12_layOrder_9 (by decide) (fun c9_ => absurd c9_ (by decide)) (fun _ => ?_)
  refine lv_aload_n hx hb dX12_layOrder_12 rfl (lv_at hl 2 rfl) ?_
  refine va_get (D := (dC, dI)) (ci := 12) (v := .ref (b 2)) (C := RX12) (T := TX12) (N := 59) hx hb hts i_X12_layOrder_X12 hown hK hP 0 rfl rfl 3 (by decide) (hts _ m_X12_layOrder_1) (fun _ h9 => h9) rfl dX12_layOrder_13 ?_
  refine lv_sipush (v := 3264) hx hb dX12_layOrder_16 (by decide) ?_
  refine va_iald hx hb hK hP 1 0 rfl rfl (show ¬ ((3264 : Int32) < 0 ∨ 3408 ≤ Int32.toNatClampNeg 3264) by decide) dX12_layOrder_19 ?_
  refine tk_i 1 (by rfl) ?_
  refine lv_iconst (v := 1) hx hb dX12_layOrder_20 (by decide) ?_
  refine lv_isub hx hb dX12_layOrder_21 ?_
  refine tk_i 0 (by decide) ?_
  refine lv_istore_n (lv' := [(2, .int 0), (1, .int 11), (0, .ref (b 0))]) hx hb dX12_layOrder_22 rfl hl (by decide) rfl (fun ls hl => ?_)
  refine lv_iload_n hx hb dX12_layOrder_23 rfl (lv_at hl 0 rfl) ?_
  refine lv_if_le (tgt := 71) hx hb dX12_layOrder_24 (by decide) (fun _ => ?_) (fun c9_ => absurd (by decide) c9_)
  refine lv_iinc (v := 10) (lv' := [(1, .int 10), (2, .int 0), (0, .ref (b 0))]) hx hb dX12_layOrder_71 hl (k := 1) rfl (by decide) (by decide) rfl (fun ls hl => ?_)
  refine lv_goto (tgt := 8) hx hb dX12_layOrder_74 (by decide) ?_
  refine lv_iload_n hx hb dX12_layOrder_8 rfl (lv_at hl 0 rfl) ?_
  refine lv_if_le (tgt := 77) hx hb dX12_layOrder_9 (by decide) (fun c9_ => absurd c9_ (by decide)) (fun _ => ?_)
  refine lv_aload_n hx hb dX12_layOrder_12 rfl (lv_at hl 2 rfl) ?_
  refine va_get (D := (dC, dI)) (ci := 12) (v := .ref (b 2)) (C := RX12) (T := TX12) (N := 59) hx hb hts i_X12_layOrder_X12 hown hK hP 0 rfl rfl 3 (by decide) (hts _ m_X12_layOrder_1) (fun _ h9 => h9) rfl dX12_layOrder_13 ?_
  refine lv_sipush (v := 3264) hx hb dX12_layOrder_16 (by decide) ?_
  refine va_iald hx hb hK hP 1 0 rfl rfl (show ¬ ((3264 : Int32) < 0 ∨ 3408 ≤ Int32.toNatClampNeg 3264) by decide) dX12_layOrder_19 ?_
  refine tk_i 1 (by rfl) ?_
  refine lv_iconst (v := 1) hx hb dX12_layOrder_20 (by decide) ?_
  refine lv_isub hx hb dX12_layOrder_21 ?_
  refine tk_i 0 (by decide) ?_
  refine lv_istore_n (lv' := [(2, .int 0), (1, .int 10), (0, .ref (b 0))]) hx hb dX12_layOrder_22 rfl hl (by decide) rfl (fun ls hl => ?_)
  refine lv_iload_n hx hb dX12_layOrder_23 rfl (lv_at hl 0 rfl) ?_
  refine lv_if_le (tgt := 71) hx hb dX12_layOrder_24 (by decide) (fun _ => ?_) (fun c9_ => absurd (by decide) c9_)
  refine lv_iinc (v := 9) (lv' := [(1, .int 9), (2, .int 0), (0, .ref (b 0))]) hx hb dX12_layOrder_71 hl (k := 1) rfl (by decide) (by decide) rfl (fun ls hl => ?_)
  refine lv_goto (tgt := 8) hx hb dX12_layOrder_74 (by decide) ?_
  refine lv_iload_n hx hb dX12_layOrder_8 rfl (lv_at hl 0 rfl) ?_
  refine lv_if_le (tgt := 77) hx hb dX12_layOrder_9 (by decide) (fun c9_ => absurd c9_ (by decide)) (fun _ => ?_)
  refine lv_aload_n hx hb dX12_layOrder_12 rfl (lv_at hl 2 rfl) ?_
  refine va_get (D := (dC, dI)) (ci := 12) (v := .ref (b 2)) (C := RX12) (T := TX12) (N := 59) hx hb hts i_X12_layOrder_X12 hown hK hP 0 rfl rfl 3 (by decide) (hts _ m_X12_layOrder_1) (fun _ h9 => h9) rfl dX12_layOrder_13 ?_
  refine lv_sipush (v := 3264) hx hb dX12_layOrder_16 (by decide) ?_
  refine va_iald hx hb hK hP 1 0 rfl rfl (show ¬ ((3264 : Int32) < 0 ∨ 3408 ≤ Int32.toNatClampNeg 3264) by decide) dX12_layOrder_19 ?_
  refine tk_i 1 (by rfl) ?_
  refine lv_iconst (v := 1) hx hb dX12_layOrder_20 (by decide) ?_
  refine lv_isub hx hb dX12_layOrder_21 ?_
  refine tk_i 0 (by decide) ?_
  refine lv_istore_n (lv' := [(2, .int 0), (1, .int 9), (0, .ref (b 0))]) hx hb dX12_layOrder_22 rfl hl (by decide) rfl (fun ls hl => ?_)
  refine lv_iload_n hx hb dX12_layOrder_23 rfl (lv_at hl 0 rfl) ?_
  refine lv_if_le (tgt := 71) hx hb dX12_layOrder_24 (by decide) (fun _ => ?_) (fun c9_ => absurd (by decide) c9_)
  refine lv_iinc (v := 8) (lv' := [(1, .int 8), (2, .int 0), (0, .ref (b 0))]) hx hb dX12_layOrder_71 hl (k := 1) rfl (by decide) (by decide) rfl (fun ls hl => ?_)
  refine lv_goto (tgt := 8) hx hb dX12_layOrder_74 (by decide) ?_
  refine lv_iload_n hx hb dX12_layOrder_8 rfl (lv_at hl 0 rfl) ?_
  refine lv_if_le (tgt := 77) hx hb dX12_layOrder_9 (by decide) (fun c9_ => absurd c9_ (by decide)) (fun _ => ?_)
  refine lv_aload_n hx hb dX12_layOrder_12 rfl (lv_at hl 2 rfl) ?_
  refine va_get (D := (dC, dI)) (ci := 12) (v := .ref (b 2)) (C := RX12) (T := TX12) (N := 59) hx hb hts i_X12_layOrder_X12 hown hK hP 0 rfl rfl 3 (by decide) (hts _ m_X12_layOrder_1) (fun _ h9 => h9) rfl dX12_layOrder_13 ?_
  refine lv_sipush (v := 3264) hx hb dX12_layOrder_16 (by decide) ?_
  refine va_iald hx hb hK hP 1 0 rfl rfl (show ¬ ((3264 : Int32) < 0 ∨ 3408 ≤ Int32.toNatClampNeg 3264) by decide) dX12_layOrder_19 ?_
  refine tk_i 1 (by rfl) ?_
  refine lv_iconst (v := 1) hx hb dX12_layOrder_20 (by decide) ?_
  refine lv_isub hx hb dX12_layOrder_21 ?_
  refine tk_i 0 (by decide) ?_
  refine lv_istore_n (lv' := [(2, .int 0), (1, .int 8), (0, .ref (b 0))]) hx hb dX12_layOrder_22 rfl hl (by decide) rfl (fun ls hl => ?_)
  refine lv_iload_n hx hb dX12_layOrder_23 rfl (lv_at hl 0 rfl) ?_
  refine lv_if_le (tgt := 71) hx hb dX12_layOrder_24 (by decide) (fun _ => ?_) (fun c9_ => absurd (by decide) c9_)
  refine lv_iinc (v := 7) (lv' := [(1, .int 7), (2, .int 0), (0, .ref (b 0))]) hx hb dX12_layOrder_71 hl (k := 1) rfl (by decide) (by decide) rfl (fun ls hl => ?_)
  refine lv_goto (tgt := 8) hx hb dX12_layOrder_74 (by decide) ?_
  refine lv_iload_n hx hb dX12_layOrder_8 rfl (lv_at hl 0 rfl) ?_
  refine lv_if_le (tgt := 77) hx hb dX12_layOrder_9 (by decide) (fun c9_ => absurd c9_ (by decide)) (fun _ => ?_)
  refine lv_aload_n hx hb dX12_layOrder_12 rfl (lv_at hl 2 rfl) ?_
  refine va_get (D := (dC, dI)) (ci := 12) (v := .ref (b 2)) (C := RX12) (T := TX12) (N := 59) hx hb hts i_X12_layOrder_X12 hown hK hP 0 rfl rfl 3 (by decide) (hts _ m_X12_layOrder_1) (fun _ h9 => h9) rfl dX12_layOrder_13 ?_
  refine lv_sipush (v := 3264) hx hb dX12_layOrder_16 (by decide) ?_
  refine va_iald hx hb hK hP 1 0 rfl rfl (show ¬ ((3264 : Int32) < 0 ∨ 3408 ≤ Int32.toNatClampNeg 3264) by decide) dX12_layOrder_19 ?_
  refine tk_i 1 (by rfl) ?_
  refine lv_iconst (v := 1) hx hb dX12_layOrder_20 (by decide) ?_
  refine lv_isub hx hb dX12_layOrder_21 ?_
  refine tk_i 0 (by decide) ?_
  refine lv_istore_n (lv' := [(2, .int 0), (1, .int 7), (0, .ref (b 0))]) hx hb dX12_layOrder_22 rfl hl (by decide) rfl (fun ls hl => ?_)
  refine lv_iload_n hx hb dX12_layOrder_23 rfl (lv_at hl 0 rfl) ?_
  refine lv_if_le (tgt := 71) hx hb dX12_layOrder_24 (by decide) (fun _ => ?_) (fun c9_ => absurd (by decide) c9_)
  refine lv_iinc (v := 6) (lv' := [(1, .int 6), (2, .int 0), (0, .ref (b 0))]) hx hb dX12_layOrder_71 hl (k := 1) rfl (by decide) (by decide) rfl (fun ls hl => ?_)
  refine lv_goto (tgt := 8) hx hb dX12_layOrder_74 (by decide) ?_
  refine lv_iload_n hx hb dX12_layOrder_8 rfl (lv_at hl 0 rfl) ?_
  refine lv_if_le (tgt := 77) hx hb dX12_layOrder_9 (by decide) (fun c9_ => absurd c9_ (by decide)) (fun _ => ?_)
  refine lv_aload_n hx hb dX12_layOrder_12 rfl (lv_at hl 2 rfl) ?_
  refine va_get (D := (dC, dI)) (ci := 12) (v := .ref (b 2)) (C := RX12) (T := TX12) (N := 59) hx hb hts i_X12_layOrder_X12 hown hK hP 0 rfl rfl 3 (by decide) (hts _ m_X12_layOrder_1) (fun _ h9 => h9) rfl dX12_layOrder_13 ?_
  refine lv_sipush (v := 3264) hx hb dX12_layOrder_16 (by decide) ?_
  refine va_iald hx hb hK hP 1 0 rfl rfl (show ¬ ((3264 : Int32) < 0 ∨ 3408 ≤ Int32.toNatClampNeg 3264) by decide) dX12_layOrder_19 ?_
  refine tk_i 1 (by rfl) ?_
  refine lv_iconst (v := 1) hx hb dX12_layOrder_20 (by decide) ?_
  refine lv_isub hx hb dX12_layOrder_21 ?_
  refine tk_i 0 (by decide) ?_
  refine lv_istore_n (lv' := [(2, .int 0), (1, .int 6), (0, .ref (b 0))]) hx hb dX12_layOrder_22 rfl hl (by decide) rfl (fun ls hl => ?_)
  refine lv_iload_n hx hb dX12_layOrder_23 rfl (lv_at hl 0 rfl) ?_
  refine lv_if_le (tgt := 71) hx hb dX12_layOrder_24 (by decide) (fun _ => ?_) (fun c9_ => absurd (by decide) c9_)
  refine lv_iinc (v := 5) (lv' := [(1, .int 5), (2, .int 0), (0, .ref (b 0))]) hx hb dX12_layOrder_71 hl (k := 1) rfl (by decide) (by decide) rfl (fun ls hl => ?_)
  refine lv_goto (tgt := 8) hx hb dX12_layOrder_74 (by decide) ?_
  refine lv_iload_n hx hb dX12_layOrder_8 rfl (lv_at hl 0 rfl) ?_
  refine lv_if_le (tgt := 77) hx hb dX12_layOrder_9 (by decide) (fun c9_ => absurd c9_ (by decide)) (fun _ => ?_)
  refine lv_aload_n hx hb dX12_layOrder_12 rfl (lv_at hl 2 rfl) ?_
  refine va_get (D := (dC, dI)) (ci := 12) (v := .ref (b 2)) (C := RX12) (T := TX12) (N := 59) hx hb hts i_X12_layOrder_X12 hown hK hP 0 rfl rfl 3 (by decide) (hts _ m_X12_layOrder_1) (fun _ h9 => h9) rfl dX12_layOrder_13 ?_
  refine lv_sipush (v := 3264) hx hb dX12_layOrder_16 (by decide) ?_
  refine va_iald hx hb hK hP 1 0 rfl rfl (show ¬ ((3264 : Int32) < 0 ∨ 3408 ≤ Int32.toNatClampNeg 3264) by decide) dX12_layOrder_19 ?_
  refine tk_i 1 (by rfl) ?_
  refine lv_iconst (v := 1) hx hb dX12_layOrder_20 (by decide) ?_
  refine lv_isub hx hb dX12_layOrder_21 ?_
  refine tk_i 0 (by decide) ?_
  refine lv_istore_n (lv' := [(2, .int 0), (1, .int 5), (0, .ref (b 0))]) hx hb dX12_layOrder_22 rfl hl (by decide) rfl (fun ls hl => ?_)
  refine lv_iload_n hx hb dX12_layOrder_23 rfl (lv_at hl 0 rfl) ?_
  refine lv_if_le (tgt := 71) hx hb dX12_layOrder_24 (by decide) (fun _ => ?_) (fun c9_ => absurd (by decide) c9_)
  refine lv_iinc (v := 4) (lv' := [(1, .int 4), (2, .int 0), (0, .ref (b 0))]) hx hb dX12_layOrder_71 hl (k := 1) rfl (by decide) (by decide) rfl (fun ls hl => ?_)
  refine lv_goto (tgt := 8) hx hb dX12_layOrder_74 (by decide) ?_
  refine lv_iload_n hx hb dX12_layOrder_8 rfl (lv_at hl 0 rfl) ?_
  refine lv_if_le (tgt := 77) hx hb dX12_layOrder_9 (by decide) (fun c9_ => absurd c9_ (by decide)) (fun _ => ?_)
  refine lv_aload_n hx hb dX12_layOrder_12 rfl (lv_at hl 2 rfl) ?_
  refine va_get (D := (dC, dI)) (ci := 12) (v := .ref (b 2)) (C := RX12) (T := TX12) (N := 59) hx hb hts i_X12_layOrder_X12 hown hK hP 0 rfl rfl 3 (by decide) (hts _ m_X12_layOrder_1) (fun _ h9 => h9) rfl dX12_layOrder_13 ?_
  refine lv_sipush (v := 3264) hx hb dX12_layOrder_16 (by decide) ?_
  refine va_iald hx hb hK hP 1 0 rfl rfl (show ¬ ((3264 : Int32) < 0 ∨ 3408 ≤ Int32.toNatClampNeg 3264) by decide) dX12_layOrder_19 ?_
  refine tk_i 1 (by rfl) ?_
  refine lv_iconst (v := 1) hx hb dX12_layOrder_20 (by decide) ?_
  refine lv_isub hx hb dX12_layOrder_21 ?_
  refine tk_i 0 (by decide) ?_
  refine lv_istore_n (lv' := [(2, .int 0), (1, .int 4), (0, .ref (b 0))]) hx hb dX12_layOrder_22 rfl hl (by decide) rfl (fun ls hl => ?_)
  refine lv_iload_n hx hb dX12_layOrder_23 rfl (lv_at hl 0 rfl) ?_
  refine lv_if_le (tgt := 71) hx hb dX12_layOrder_24 (by decide) (fun _ => ?_) (fun c9_ => absurd (by decide) c9_)
  refine lv_iinc (v := 3) (lv' := [(1, .int 3), (2, .int 0), (0, .ref (b 0))]) hx hb dX12_layOrder_71 hl (k := 1) rfl (by decide) (by decide) rfl (fun ls hl => ?_)
  refine lv_goto (tgt := 8) hx hb dX12_layOrder_74 (by decide) ?_
  refine lv_iload_n hx hb dX12_layOrder_8 rfl (lv_at hl 0 rfl) ?_
  refine lv_if_le (tgt := 77) hx hb dX12_layOrder_9 (by decide) (fun c9_ => absurd c9_ (by decide)) (fun _ => ?_)
  refine lv_aload_n hx hb dX12_layOrder_12 rfl (lv_at hl 2 rfl) ?_
  refine va_get (D := (dC, dI)) (ci := 12) (v := .ref (b 2)) (C := RX12) (T := TX12) (N := 59) hx hb hts i_X12_layOrder_X12 hown hK hP 0 rfl rfl 3 (by decide) (hts _ m_X12_layOrder_1) (fun _ h9 => h9) rfl dX12_layOrder_13 ?_
  refine lv_sipush (v := 3264) hx hb dX12_layOrder_16 (by decide) ?_
  refine va_iald hx hb hK hP 1 0 rfl rfl (show ¬ ((3264 : Int32) < 0 ∨ 3408 ≤ Int32.toNatClampNeg 3264) by decide) dX12_layOrder_19 ?_
  refine tk_i 1 (by rfl) ?_
  refine lv_iconst (v := 1) hx hb dX12_layOrder_20 (by decide) ?_
  refine lv_isub hx hb dX12_layOrder_21 ?_
  refine tk_i 0 (by decide) ?_
  refine lv_istore_n (lv' := [(2, .int 0), (1, .int 3), (0, .ref (b 0))]) hx hb dX12_layOrder_22 rfl hl (by decide) rfl (fun ls hl => ?_)
  refine lv_iload_n hx hb dX12_layOrder_23 rfl (lv_at hl 0 rfl) ?_
  refine lv_if_le (tgt := 71) hx hb dX12_layOrder_24 (by decide) (fun _ => ?_) (fun c9_ => absurd (by decide) c9_)
  refine lv_iinc (v := 2) (lv' := [(1, .int 2), (2, .int 0), (0, .ref (b 0))]) hx hb dX12_layOrder_71 hl (k := 1) rfl (by decide) (by decide) rfl (fun ls hl => ?_)
  refine lv_goto (tgt := 8) hx hb dX12_layOrder_74 (by decide) ?_
  refine lv_iload_n hx hb dX12_layOrder_8 rfl (lv_at hl 0 rfl) ?_
  refine lv_if_le (tgt := 77) hx hb dX12_layOrder_9 (by decide) (fun c9_ => absurd c9_ (by decide)) (fun _ => ?_)
  refine lv_aload_n hx hb dX12_layOrder_12 rfl (lv_at hl 2 rfl) ?_
  refine va_get (D := (dC, dI)) (ci := 12) (v := .ref (b 2)) (C := RX12) (T := TX12) (N := 59) hx hb hts i_X12_layOrder_X12 hown hK hP 0 rfl rfl 3 (by decide) (hts _ m_X12_layOrder_1) (fun _ h9 => h9) rfl dX12_layOrder_13 ?_
  refine lv_sipush (v := 3264) hx hb dX12_layOrder_16 (by decide) ?_
  refine va_iald hx hb hK hP 1 0 rfl rfl (show ¬ ((3264 : Int32) < 0 ∨ 3408 ≤ Int32.toNatClampNeg 3264) by decide) dX12_layOrder_19 ?_
  refine tk_i 1 (by rfl) ?_
  refine lv_iconst (v := 1) hx hb dX12_layOrder_20 (by decide) ?_
  refine lv_isub hx hb dX12_layOrder_21 ?_
  refine tk_i 0 (by decide) ?_
  refine lv_istore_n (lv' := [(2, .int 0), (1, .int 2), (0, .ref (b 0))]) hx hb dX12_layOrder_22 rfl hl (by decide) rfl (fun ls hl => ?_)
  refine lv_iload_n hx hb dX12_layOrder_23 rfl (lv_at hl 0 rfl) ?_
  refine lv_if_le (tgt := 71) hx hb dX12_layOrder_24 (by decide) (fun _ => ?_) (fun c9_ => absurd (by decide) c9_)
  refine lv_iinc (v := 1) (lv' := [(1, .int 1), (2, .int 0), (0, .ref (b 0))]) hx hb dX12_layOrder_71 hl (k := 1) rfl (by decide) (by decide) rfl (fun ls hl => ?_)
  refine lv_goto (tgt := 8) hx hb dX12_layOrder_74 (by decide) ?_
  refine lv_iload_n hx hb dX12_layOrder_8 rfl (lv_at hl 0 rfl) ?_
  refine lv_if_le (tgt := 77) hx hb dX12_layOrder_9 (by decide) (fun c9_ => absurd c9_ (by decide)) (fun _ => ?_)
  refine lv_aload_n hx hb dX12_layOrder_12 rfl (lv_at hl 2 rfl) ?_
  refine va_get (D := (dC, dI)) (ci := 12) (v := .ref (b 2)) (C := RX12) (T := TX12) (N := 59) hx hb hts i_X12_layOrder_X12 hown hK hP 0 rfl rfl 3 (by decide) (hts _ m_X12_layOrder_1) (fun _ h9 => h9) rfl dX12_layOrder_13 ?_
  refine lv_sipush (v := 3264) hx hb dX12_layOrder_16 (by decide) ?_
  refine va_iald hx hb hK hP 1 0 rfl rfl (show ¬ ((3264 : Int32) < 0 ∨ 3408 ≤ Int32.toNatClampNeg 3264) by decide) dX12_layOrder_19 ?_
  refine tk_i 1 (by rfl) ?_
  refine lv_iconst (v := 1) hx hb dX12_layOrder_20 (by decide) ?_
  refine lv_isub hx hb dX12_layOrder_21 ?_
  refine tk_i 0 (by decide) ?_
  refine lv_istore_n (lv' := [(2, .int 0), (1, .int 1), (0, .ref (b 0))]) hx hb dX12_layOrder_22 rfl hl (by decide) rfl (fun ls hl => ?_)
  refine lv_iload_n hx hb dX12_layOrder_23 rfl (lv_at hl 0 rfl) ?_
  refine lv_if_le (tgt := 71) hx hb dX12_layOrder_24 (by decide) (fun _ => ?_) (fun c9_ => absurd (by decide) c9_)
  refine lv_iinc (v := 0) (lv' := [(1, .int 0), (2, .int 0), (0, .ref (b 0))]) hx hb dX12_layOrder_71 hl (k := 1) rfl (by decide) (by decide) rfl (fun ls hl => ?_)
  refine lv_goto (tgt := 8) hx hb dX12_layOrder_74 (by decide) ?_
  refine lv_iload_n hx hb dX12_layOrder_8 rfl (lv_at hl 0 rfl) ?_
  refine lv_if_le (tgt := 77) hx hb dX12_layOrder_9 (by decide) (fun _ => ?_) (fun c9_ => absurd (by decide) c9_)
  have hP9 := hP.sub (ws' := [(b 0, .inr (12, [.int 0, .int 0, .ref (b 1), .ref (b 2), .ref (b 3), .ref (b 4), .int 0, .ref (b 5), .ref (b 6), .int 0, .int 0, .int 0, .int (-1), .int 0, .ref (b 7), .ref (b 20), .int 0, .ref (b 21), .ref (b 22), .int 0, .int 0, .ref (b 23), .int 0, .int 0, .int 0, .int 0, .ref (b 24), .ref (b 25), .ref (b 26), .int 0, .ref (b 27), .int 0, .ref (b 28), .ref (b 29), .ref (b 30), .ref (b 31), .ref (b 32), .ref (b 33), .ref (b 34), .int 0, .int 0, .int 0, .int 0, .int 0, .int 0, .ref (b 35), .ref (b 36), .ref (b 37), .int 0, .int 0, .int 0, .ref (b 38), .int 0, .int 0, .ref (b 39), .ref (b 40), .ref (b 41), .ref (b 42), .int 0])), (b 2, .inl (cy 0, 3408, .inl (upd (upd (upd (fun _ => 0) 3264 1) 0 1) 2 (-1))))]) [0, 1] rfl
  have hD9 := hD.sub (ws' := [(b 0, .inr (12, [.int 0, .int 0, .ref (b 1), .ref (b 2), .ref (b 3), .ref (b 4), .int 0, .ref (b 5), .ref (b 6), .int 0, .int 0, .int 0, .int (-1), .int 0, .ref (b 7), .ref (b 20), .int 0, .ref (b 21), .ref (b 22), .int 0, .int 0, .ref (b 23), .int 0, .int 0, .int 0, .int 0, .ref (b 24), .ref (b 25), .ref (b 26), .int 0, .ref (b 27), .int 0, .ref (b 28), .ref (b 29), .ref (b 30), .ref (b 31), .ref (b 32), .ref (b 33), .ref (b 34), .int 0, .int 0, .int 0, .int 0, .int 0, .int 0, .ref (b 35), .ref (b 36), .ref (b 37), .int 0, .int 0, .int 0, .ref (b 38), .int 0, .int 0, .ref (b 39), .ref (b 40), .ref (b 41), .ref (b 42), .int 0])), (b 2, .inl (cy 0, 3408, .inl (upd (upd (upd (fun _ => 0) 3264 1) 0 1) 2 (-1))))]) [0, 1] (by decide) rfl
  exact W.vret hx hb hr (fun t ht hW => ⟨⟨((fun k => [].getD k 0, fun k => [].getD k (fun _ => 0), fun k => [].getD k (fun _ => none)) : uS), rfl, trivial, (by rw [ht]; exact hP9), hD9⟩, hS.F ht⟩) hS.2.2 dX12_layOrder_77

theorem dX12_order_0 : decode cX12_order 0 = .ok (.aload_n 0, 1) := by decide +kernel
theorem dX12_order_1 : decode cX12_order 1 = .ok (.iconst 0, 1) := by decide +kernel
theorem dX12_order_2 : decode cX12_order 2 = .ok (.putfield 105, 3) := by decide +kernel
theorem dX12_order_5 : decode cX12_order 5 = .ok (.aload_n 0, 1) := by decide +kernel
theorem dX12_order_6 : decode cX12_order 6 = .ok (.invokevirtual 485, 3) := by decide +kernel
theorem dX12_order_9 : decode cX12_order 9 = .ok (.iload_n 1, 1) := by decide +kernel
theorem dX12_order_10 : decode cX12_order 10 = .ok (.i2l, 1) := by decide +kernel
theorem dX12_order_11 : decode cX12_order 11 = .ok (.lconst 0, 1) := by decide +kernel
theorem dX12_order_12 : decode cX12_order 12 = .ok (.aload_n 0, 1) := by decide +kernel
theorem dX12_order_13 : decode cX12_order 13 = .ok (.getfield 476, 3) := by decide +kernel
theorem dX12_order_16 : decode cX12_order 16 = .ok (.i2l, 1) := by decide +kernel
theorem dX12_order_17 : decode cX12_order 17 = .ok (.lconst 1, 1) := by decide +kernel
theorem dX12_order_18 : decode cX12_order 18 = .ok (.lsub, 1) := by decide +kernel
theorem dX12_order_19 : decode cX12_order 19 = .ok (.invokestatic 128, 3) := by decide +kernel
theorem dX12_order_22 : decode cX12_order 22 = .ok (.ifCond .eq 12, 3) := by decide +kernel
theorem dX12_order_34 : decode cX12_order 34 = .ok (.iconst (-1), 1) := by decide +kernel
theorem dX12_order_35 : decode cX12_order 35 = .ok (.ireturn, 1) := by decide +kernel
def v_X12_order : List Cond := .code yX12_order cX12_order 2 (some .int) :: ([.fieldLink RX12 105 "RestBoardModel" "thrown" "I", .fieldLink RX12 476 "RestBoardModel" "nLine" "I", .methodLink RX12 485 yX12_layOrder, .instanceMethod yX12_layOrder, .selects RX12 yX12_layOrder yX12_layOrder, .initialized RX12, .code yX12_layOrder cX12_layOrder 3 none, .fieldLink RX12 13 "RestBoardModel" "row" "[I", .methodLink RX12 128 yX12_in, .static yX12_in, .code yX12_in cX12_in 6 (some .boolean)] ++ wsX120)
theorem m_X12_order_0 : (.fieldLink RX12 105 "RestBoardModel" "thrown" "I" : Cond) ∈ v_X12_order := List.mem_of_getElem? (i := 1) (by decide +kernel)
theorem m_X12_order_1 : (.fieldLink RX12 476 "RestBoardModel" "nLine" "I" : Cond) ∈ v_X12_order := List.mem_of_getElem? (i := 2) (by decide +kernel)
theorem i_X12_order_X12 : ∀ w ∈ u_ws RX12 TX12 59, w ∈ v_X12_order := fun w h => List.mem_cons_of_mem _ (List.mem_append_right _ h)
set_option maxRecDepth 100000 in
theorem gg_X12_order_X12_layOrder_485 : GoodIn v_X12_order v_X12_layOrder := goodIn_r _ [7, 2, 8, 12, 13, 14, 15, 16, 17, 18, 19, 20, 21, 22, 23, 24, 25, 26, 27, 28, 29, 30, 31, 32, 33, 34, 35, 36, 37, 38, 39, 40, 41, 42, 43, 44, 45, 46, 47, 48, 49, 50, 51, 52, 53, 54, 55, 56, 57, 58, 59, 60, 61, 62, 63, 64, 65, 66, 67, 68, 69, 70] (by decide +kernel) (by decide +kernel)
set_option maxRecDepth 100000 in
theorem g_X12_order_X12_layOrder_485 : GoodIn v_X12_order (wsV RX12 485 RX12 yX12_layOrder v_X12_layOrder) := goodIn_app (goodIn_r _ [3, 4, 5, 6] (by decide +kernel) (by decide +kernel)) gg_X12_order_X12_layOrder_485
set_option maxRecDepth 100000 in
theorem gg_X12_order_X12_in_128 : GoodIn v_X12_order v_X12_in := goodIn_r _ [11] (by decide +kernel) (by decide +kernel)
set_option maxRecDepth 100000 in
theorem g_X12_order_X12_in_128 : GoodIn v_X12_order (va_wsS RX12 128 yX12_in v_X12_in) := goodIn_app (goodIn_r _ [9, 10, 6] (by decide +kernel) (by decide +kernel)) gg_X12_order_X12_in_128
set_option maxHeartbeats 4000000 in
set_option maxRecDepth 100000 in
theorem c_X12_order (l : Launch) (dC : Nat → ClassId) (dI : Nat → Nat → Nat) (cy : Nat → ClassId) (b : Nat → Nat) (sz : Nat) (p0 : Int32) : Met l yX12_order v_X12_order ({ frames := 1, cells := 0, slots := 0, locals := 25 }) (va_Pc [.ref (b 0), .int p0] (ps dC dI cy (mw b cy) sz)) (va_Qi (fun (r : Int32) (_ : Unit) => ((p0 < 0) ∧ r = (-1)) ∨ ((¬ p0 < 0) ∧ (((-1) : Int32) < p0) ∧ r = (-1))) (fun _ _ => True) (va_A (mw b cy) sz)) 0 0 (va_A (mw b cy) sz) := by
  refine Met.ofW (cc := cX12_order) (maxL := 2) (ret := (some .int)) (by decide) rfl ?_
  intro p e s m args below meth c s₁ B hml hv
  obtain ⟨rfl, hsz, hP, hC, hD0⟩ := hv
  have hK := hC.1
  have hx := B.exec
  have hb := B.bytes
  have hr := B.returns
  have hts := atoms_spec (ws := v_X12_order) B.pre
  have hown : s.vm.findClass RX12 = some m.cls := findClass_of_methodNamed B.named
  have hlocks := B.notSynchronized
  subst hsz
  have hD := hD0.self (sz := s.heap.size)
  generalize hAe : va_A (mw b cy) s.heap.size = A at hD ⊢
  have hA : ∀ q : Nat, s.heap.size ≤ q → A q := fun q h => by rw [← hAe]; exact Or.inr h
  have hS : va_S A s.heap s.heap [] := va_S.rf
  have hl := lv_entry ([.ref (b 0), .int p0]) (n := 2) (Nat.le_of_ble_eq_true rfl)
  rw [lg_entry_eq]
  generalize (lg_sl ([.ref (b 0), .int p0]) ++ List.replicate (2 - (lg_sl ([.ref (b 0), .int p0])).length) Slot.unset).toArray = ls at hl ⊢
  have hl : lv_has ls 2 [(0, .ref (b 0)), (1, .int p0)] := hl
  refine lv_aload_n hx hb dX12_order_0 rfl (lv_at hl 0 rfl) ?_
  refine lv_iconst (v := 0) hx hb dX12_order_1 (by decide) ?_
  refine va_put (D := (dC, dI)) (ci := 12) (v := .int 0) (ty := .int) (C := RX12) (T := TX12) (N := 59) hx hb hts i_X12_order_X12 tyX12 tyX12_ok nmX12 hown hK hP hD hS 0 rfl rfl 0 (by decide) (hts _ m_X12_order_0) (fun _ h9 => h9) rfl (by decide +kernel) rfl rfl (Nat.le_of_ble_eq_true rfl) dX12_order_2 (fun H locs hP hD hS => ?_)
  have hP : va_P (dC, dI) vwCl (mw b cy) H := hP
  have hD : va_D A (mw b cy) := hD
  refine lv_aload_n hx hb dX12_order_5 rfl (lv_at hl 0 rfl) ?_
  have hPc : va_P (dC, dI) vwCl ([(b 0, .inr (12, [.int 0, .int 0, .ref (b 1), .ref (b 2), .ref (b 3), .ref (b 4), .int 0, .ref (b 5), .ref (b 6), .int 0, .int 0, .int 0, .int (-1), .int 0, .ref (b 7), .ref (b 20), .int 0, .ref (b 21), .ref (b 22), .int 0, .int 0, .ref (b 23), .int 0, .int 0, .int 0, .int 0, .ref (b 24), .ref (b 25), .ref (b 26), .int 0, .ref (b 27), .int 0, .ref (b 28), .ref (b 29), .ref (b 30), .ref (b 31), .ref (b 32), .ref (b 33), .ref (b 34), .int 0, .int 0, .int 0, .int 0, .int 0, .int 0, .ref (b 35), .ref (b 36), .ref (b 37), .int 0, .int 0, .int 0, .ref (b 38), .int 0, .int 0, .ref (b 39), .ref (b 40), .ref (b 41), .ref (b 42), .int 0])), (b 2, .inl (cy 0, 3408, .inl (upd (upd (upd (fun _ => 0) 3264 1) 0 1) 2 (-1))))]) _ := hP.sub [0, 2] rfl
  have hDc := hD.sub (ws' := [(b 0, .inr (12, [.int 0, .int 0, .ref (b 1), .ref (b 2), .ref (b 3), .ref (b 4), .int 0, .ref (b 5), .ref (b 6), .int 0, .int 0, .int 0, .int (-1), .int 0, .ref (b 7), .ref (b 20), .int 0, .ref (b 21), .ref (b 22), .int 0, .int 0, .ref (b 23), .int 0, .int 0, .int 0, .int 0, .ref (b 24), .ref (b 25), .ref (b 26), .int 0, .ref (b 27), .int 0, .ref (b 28), .ref (b 29), .ref (b 30), .ref (b 31), .ref (b 32), .ref (b 33), .ref (b 34), .int 0, .int 0, .int 0, .int 0, .int 0, .int 0, .ref (b 35), .ref (b 36), .ref (b 37), .int 0, .int 0, .int 0, .ref (b 38), .int 0, .int 0, .ref (b 39), .ref (b 40), .ref (b 41), .ref (b 42), .int 0])), (b 2, .inl (cy 0, 3408, .inl (upd (upd (upd (fun _ => 0) 3264 1) 0 1) 2 (-1))))]) [0, 2] (by decide) rfl
  have hFc := va_free (wc := [(b 0, .inr (12, [.int 0, .int 0, .ref (b 1), .ref (b 2), .ref (b 3), .ref (b 4), .int 0, .ref (b 5), .ref (b 6), .int 0, .int 0, .int 0, .int (-1), .int 0, .ref (b 7), .ref (b 20), .int 0, .ref (b 21), .ref (b 22), .int 0, .int 0, .ref (b 23), .int 0, .int 0, .int 0, .int 0, .ref (b 24), .ref (b 25), .ref (b 26), .int 0, .ref (b 27), .int 0, .ref (b 28), .ref (b 29), .ref (b 30), .ref (b 31), .ref (b 32), .ref (b 33), .ref (b 34), .int 0, .int 0, .int 0, .int 0, .int 0, .int 0, .ref (b 35), .ref (b 36), .ref (b 37), .int 0, .int 0, .int 0, .ref (b 38), .int 0, .int 0, .ref (b 39), .ref (b 40), .ref (b 41), .ref (b 42), .int 0])), (b 2, .inl (cy 0, 3408, .inl (upd (upd (upd (fun _ => 0) 3264 1) 0 1) 2 (-1))))]) hD hS hA [0, 2] rfl
  refine va_callv (va_runV (As := []) (rest := []) ⟨hx, hb, hml, hown, hts⟩ (c_X12_layOrder l dC dI cy b _) (cwV 0 hts g_X12_order_X12_layOrder_485 rfl rfl rfl (by decide +kernel) ⟨Nat.le_of_ble_eq_true rfl, Nat.le_of_ble_eq_true rfl⟩) (pv_ps hC hPc hDc (ci := 12) (q0 := 0) rfl rfl) rfl rfl hl.1 rfl (lv_room (Nat.le_of_ble_eq_true rfl)) dX12_order_6 ⟨Nat.le_of_ble_eq_true rfl, Nat.le_of_ble_eq_true rfl⟩) hS (fun q _ h => hFc q h) hFc (fun u t_ H1 locs ht hvm hw hB hz1 hk1 hS => ?_)
  obtain ⟨u1_, rfl⟩ : ∃ z, z = u := ⟨_, rfl⟩
  obtain ⟨hP1, hD1⟩ := hB
  rw [ht] at hP1
  obtain ⟨hP, hD⟩ := va_join (wr := [(b 1, .inl (cy 0, 8, .inl (fun _ => 0))), (b 3, .inl (cy 0, 27264, .inl (fun _ => 0))), (b 4, .inl (cy 0, 8, .inl (fun _ => 0))), (b 5, .inl (cy 0, 3408, .inl (fun _ => 0))), (b 6, .inl (cy 0, 400, .inl (fun _ => 0))), (b 7, .inl (cy 0, 32, .inl (fun _ => 0)))]) (w1 := [(b 0, .inr (12, [.int 0, .int 0, .ref (b 1), .ref (b 2), .ref (b 3), .ref (b 4), .int 0, .ref (b 5), .ref (b 6), .int 0, .int 0, .int 0, .int (-1), .int 0, .ref (b 7), .ref (b 20), .int 0, .ref (b 21), .ref (b 22), .int 0, .int 0, .ref (b 23), .int 0, .int 0, .int 0, .int 0, .ref (b 24), .ref (b 25), .ref (b 26), .int 0, .ref (b 27), .int 0, .ref (b 28), .ref (b 29), .ref (b 30), .ref (b 31), .ref (b 32), .ref (b 33), .ref (b 34), .int 0, .int 0, .int 0, .int 0, .int 0, .int 0, .ref (b 35), .ref (b 36), .ref (b 37), .int 0, .int 0, .int 0, .ref (b 38), .int 0, .int 0, .ref (b 39), .ref (b 40), .ref (b 41), .ref (b 42), .int 0])), (b 2, .inl (cy 0, 3408, .inl (upd (upd (upd (fun _ => 0) 3264 1) 0 1) 2 (-1))))]) hP hD [0, 2] [1, 3, 4, 5, 6, 7] rfl rfl (by decide) (by decide) hk1 hFc hP1 hD1
  generalize H1 = H at hP hS ⊢
  have hP : va_P (dC, dI) vwCl ([(b 1, .inl (cy 0, 8, .inl (fun _ => 0))), (b 3, .inl (cy 0, 27264, .inl (fun _ => 0))), (b 4, .inl (cy 0, 8, .inl (fun _ => 0))), (b 5, .inl (cy 0, 3408, .inl (fun _ => 0))), (b 6, .inl (cy 0, 400, .inl (fun _ => 0))), (b 7, .inl (cy 0, 32, .inl (fun _ => 0))), (b 0, .inr (12, [.int 0, .int 0, .ref (b 1), .ref (b 2), .ref (b 3), .ref (b 4), .int 0, .ref (b 5), .ref (b 6), .int 0, .int 0, .int 0, .int (-1), .int 0, .ref (b 7), .ref (b 20), .int 0, .ref (b 21), .ref (b 22), .int 0, .int 0, .ref (b 23), .int 0, .int 0, .int 0, .int 0, .ref (b 24), .ref (b 25), .ref (b 26), .int 0, .ref (b 27), .int 0, .ref (b 28), .ref (b 29), .ref (b 30), .ref (b 31), .ref (b 32), .ref (b 33), .ref (b 34), .int 0, .int 0, .int 0, .int 0, .int 0, .int 0, .ref (b 35), .ref (b 36), .ref (b 37), .int 0, .int 0, .int 0, .ref (b 38), .int 0, .int 0, .ref (b 39), .ref (b 40), .ref (b 41), .ref (b 42), .int 0])), (b 2, .inl (cy 0, 3408, .inl (upd (upd (upd (fun _ => 0) 3264 1) 0 1) 2 (-1))))]) H := hP
  have hD : va_D A ([(b 1, .inl (cy 0, 8, .inl (fun _ => 0))), (b 3, .inl (cy 0, 27264, .inl (fun _ => 0))), (b 4, .inl (cy 0, 8, .inl (fun _ => 0))), (b 5, .inl (cy 0, 3408, .inl (fun _ => 0))), (b 6, .inl (cy 0, 400, .inl (fun _ => 0))), (b 7, .inl (cy 0, 32, .inl (fun _ => 0))), (b 0, .inr (12, [.int 0, .int 0, .ref (b 1), .ref (b 2), .ref (b 3), .ref (b 4), .int 0, .ref (b 5), .ref (b 6), .int 0, .int 0, .int 0, .int (-1), .int 0, .ref (b 7), .ref (b 20), .int 0, .ref (b 21), .ref (b 22), .int 0, .int 0, .ref (b 23), .int 0, .int 0, .int 0, .int 0, .ref (b 24), .ref (b 25), .ref (b 26), .int 0, .ref (b 27), .int 0, .ref (b 28), .ref (b 29), .ref (b 30), .ref (b 31), .ref (b 32), .ref (b 33), .ref (b 34), .int 0, .int 0, .int 0, .int 0, .int 0, .int 0, .ref (b 35), .ref (b 36), .ref (b 37), .int 0, .int 0, .int 0, .ref (b 38), .int 0, .int 0, .ref (b 39), .ref (b 40), .ref (b 41), .ref (b 42), .int 0])), (b 2, .inl (cy 0, 3408, .inl (upd (upd (upd (fun _ => 0) 3264 1) 0 1) 2 (-1))))]) := hD
  refine lv_iload_n hx hb dX12_order_9 rfl (lv_at hl 1 rfl) ?_
  refine lv_i2l (v := Int32.toInt64 p0) hx hb dX12_order_10 rfl ?_
  refine lv_lconst (v := 0) hx hb dX12_order_11 (by decide) ?_
  refine tk_l (Int32.toInt64 0) (by decide) ?_
  refine lv_aload_n hx hb dX12_order_12 rfl (lv_at hl 0 rfl) ?_
  refine va_get (D := (dC, dI)) (ci := 12) (v := .int 0) (C := RX12) (T := TX12) (N := 59) hx hb hts i_X12_order_X12 hown hK hP 6 rfl rfl 58 (by decide) (hts _ m_X12_order_1) (fun _ h9 => h9) rfl dX12_order_13 ?_
  refine lv_i2l (v := Int32.toInt64 0) hx hb dX12_order_16 rfl ?_
  refine lv_lconst (v := 1) hx hb dX12_order_17 (by decide) ?_
  refine tk_l (Int32.toInt64 1) (by decide) ?_
  refine lv_lsub hx hb dX12_order_18 ?_
  refine tk_l (Int32.toInt64 (-1)) (by decide) ?_
  refine tk_pi (va_runS (As := [.long (Int32.toInt64 p0), .long (Int32.toInt64 0), .long (Int32.toInt64 (-1))]) (rest := []) ⟨hx, hb, hml, hown, hts⟩ (c_X12_in l dC dI cy  p0 0 (-1)) (va_cwS 3 hts g_X12_order_X12_in_128 rfl rfl rfl (by decide +kernel) ⟨Nat.le_of_ble_eq_true rfl, Nat.le_of_ble_eq_true rfl⟩) (pS_pp hC va_P0) rfl rfl hl.1 rfl (lv_room (Nat.le_of_ble_eq_true rfl)) dX12_order_19 ⟨Nat.le_of_ble_eq_true rfl, Nat.le_of_ble_eq_true rfl⟩) hP hS (fun r_ H locs hw hP hS => ?_)
  rcases hw with ⟨c2_, rfl⟩ | ⟨c3_, c4_, rfl⟩ | ⟨c5_, c6_, rfl⟩
  · skip
    refine lv_if_eq (tgt := 34) hx hb dX12_order_22 (by decide) (fun _ => ?_) (fun c9_ => absurd (by decide) c9_)
    refine lv_iconst (v := (-1)) hx hb dX12_order_34 (by decide) ?_
    exact W.iret (v := (-1)) hx hb hr (fun t ht hW => ⟨⟨(-1), (), rfl, Or.inl (⟨c2_, rfl⟩), trivial⟩, hS.F ht⟩) hS.2.2 dX12_order_35
  · skip
    refine lv_if_eq (tgt := 34) hx hb dX12_order_22 (by decide) (fun _ => ?_) (fun c9_ => absurd (by decide) c9_)
    refine lv_iconst (v := (-1)) hx hb dX12_order_34 (by decide) ?_
    exact W.iret (v := (-1)) hx hb hr (fun t ht hW => ⟨⟨(-1), (), rfl, Or.inr (⟨c3_, c4_, rfl⟩), trivial⟩, hS.F ht⟩) hS.2.2 dX12_order_35
  · skip
    exfalso
    have z0_ := tz_nlt_r c5_ (show (0 : Int32).toInt = 0 by decide)
    have z1_ := tz_nlt_l c6_ (show ((-1) : Int32).toInt = -1 by decide)
    omega

