theorem dX9_read_0 : decode cX9_read 0 = .ok (.aload_n 0, 1) := by decide +kernel
theorem dX9_read_1 : decode cX9_read 1 = .ok (.iconst 0, 1) := by decide +kernel
theorem dX9_read_2 : decode cX9_read 2 = .ok (.putfield 42, 3) := by decide +kernel
theorem dX9_read_5 : decode cX9_read 5 = .ok (.aload_n 0, 1) := by decide +kernel
theorem dX9_read_6 : decode cX9_read 6 = .ok (.iload_n 2, 1) := by decide +kernel
theorem dX9_read_7 : decode cX9_read 7 = .ok (.putfield 45, 3) := by decide +kernel
theorem dX9_read_10 : decode cX9_read 10 = .ok (.aload_n 0, 1) := by decide +kernel
theorem dX9_read_11 : decode cX9_read 11 = .ok (.aload_n 0, 1) := by decide +kernel
theorem dX9_read_12 : decode cX9_read 12 = .ok (.getfield 35, 3) := by decide +kernel
theorem dX9_read_15 : decode cX9_read 15 = .ok (.ifCond .ne 7, 3) := by decide +kernel
theorem dX9_read_18 : decode cX9_read 18 = .ok (.iconst 0, 1) := by decide +kernel
theorem dX9_read_19 : decode cX9_read 19 = .ok (.goto 4, 3) := by decide +kernel
theorem dX9_read_23 : decode cX9_read 23 = .ok (.putfield 15, 3) := by decide +kernel
theorem dX9_read_26 : decode cX9_read 26 = .ok (.aload_n 0, 1) := by decide +kernel
theorem dX9_read_27 : decode cX9_read 27 = .ok (.iconst 0, 1) := by decide +kernel
theorem dX9_read_28 : decode cX9_read 28 = .ok (.putfield 48, 3) := by decide +kernel
theorem dX9_read_31 : decode cX9_read 31 = .ok (.aload_n 0, 1) := by decide +kernel
theorem dX9_read_32 : decode cX9_read 32 = .ok (.getfield 22, 3) := by decide +kernel
theorem dX9_read_35 : decode cX9_read 35 = .ok (.iconst 0, 1) := by decide +kernel
theorem dX9_read_36 : decode cX9_read 36 = .ok (.iload_n 1, 1) := by decide +kernel
theorem dX9_read_37 : decode cX9_read 37 = .ok (.iastore, 1) := by decide +kernel
theorem dX9_read_38 : decode cX9_read 38 = .ok (.aload_n 0, 1) := by decide +kernel
theorem dX9_read_39 : decode cX9_read 39 = .ok (.getfield 19, 3) := by decide +kernel
theorem dX9_read_42 : decode cX9_read 42 = .ok (.iconst 0, 1) := by decide +kernel
theorem dX9_read_43 : decode cX9_read 43 = .ok (.aload_n 0, 1) := by decide +kernel
theorem dX9_read_44 : decode cX9_read 44 = .ok (.getfield 35, 3) := by decide +kernel
theorem dX9_read_47 : decode cX9_read 47 = .ok (.iastore, 1) := by decide +kernel
theorem dX9_read_48 : decode cX9_read 48 = .ok (.aload_n 0, 1) := by decide +kernel
theorem dX9_read_49 : decode cX9_read 49 = .ok (.aload_n 0, 1) := by decide +kernel
theorem dX9_read_50 : decode cX9_read 50 = .ok (.getfield 35, 3) := by decide +kernel
theorem dX9_read_53 : decode cX9_read 53 = .ok (.putfield 51, 3) := by decide +kernel
theorem dX9_read_56 : decode cX9_read 56 = .ok (.iconst 0, 1) := by decide +kernel
theorem dX9_read_57 : decode cX9_read 57 = .ok (.istore_n 3, 1) := by decide +kernel
theorem dX9_read_58 : decode cX9_read 58 = .ok (.iload_n 3, 1) := by decide +kernel
theorem dX9_read_59 : decode cX9_read 59 = .ok (.sipush 800, 3) := by decide +kernel
theorem dX9_read_62 : decode cX9_read 62 = .ok (.if_icmp .gt 89, 3) := by decide +kernel
theorem dX9_read_65 : decode cX9_read 65 = .ok (.aload_n 0, 1) := by decide +kernel
theorem dX9_read_66 : decode cX9_read 66 = .ok (.getfield 15, 3) := by decide +kernel
theorem dX9_read_69 : decode cX9_read 69 = .ok (.iconst (-1), 1) := by decide +kernel
theorem dX9_read_70 : decode cX9_read 70 = .ok (.if_icmp .ne 81, 3) := by decide +kernel
theorem dX9_read_151 : decode cX9_read 151 = .ok (.aload_n 0, 1) := by decide +kernel
theorem dX9_read_152 : decode cX9_read 152 = .ok (.getfield 45, 3) := by decide +kernel
theorem dX9_read_155 : decode cX9_read 155 = .ok (.ireturn, 1) := by decide +kernel
def v_X9_read : List Cond := .code yX9_read cX9_read 4 (some .int) :: ([.fieldLink RX9 42 "RestBoard$Table" "at" "I", .fieldLink RX9 45 "RestBoard$Table" "size" "I", .fieldLink RX9 35 "RestBoard$Table" "length" "I", .fieldLink RX9 15 "RestBoard$Table" "faultPlace" "I", .fieldLink RX9 48 "RestBoard$Table" "devicesOpen" "I", .fieldLink RX9 22 "RestBoard$Table" "devices" "[I", .fieldLink RX9 19 "RestBoard$Table" "deviceEnds" "[I", .fieldLink RX9 51 "RestBoard$Table" "end" "I"] ++ wsX90)
theorem m_X9_read_0 : (.fieldLink RX9 42 "RestBoard$Table" "at" "I" : Cond) ∈ v_X9_read := List.mem_of_getElem? (i := 1) (by decide +kernel)
theorem m_X9_read_1 : (.fieldLink RX9 45 "RestBoard$Table" "size" "I" : Cond) ∈ v_X9_read := List.mem_of_getElem? (i := 2) (by decide +kernel)
theorem m_X9_read_2 : (.fieldLink RX9 35 "RestBoard$Table" "length" "I" : Cond) ∈ v_X9_read := List.mem_of_getElem? (i := 3) (by decide +kernel)
theorem m_X9_read_3 : (.fieldLink RX9 15 "RestBoard$Table" "faultPlace" "I" : Cond) ∈ v_X9_read := List.mem_of_getElem? (i := 4) (by decide +kernel)
theorem m_X9_read_4 : (.fieldLink RX9 48 "RestBoard$Table" "devicesOpen" "I" : Cond) ∈ v_X9_read := List.mem_of_getElem? (i := 5) (by decide +kernel)
theorem m_X9_read_5 : (.fieldLink RX9 22 "RestBoard$Table" "devices" "[I" : Cond) ∈ v_X9_read := List.mem_of_getElem? (i := 6) (by decide +kernel)
theorem m_X9_read_6 : (.fieldLink RX9 19 "RestBoard$Table" "deviceEnds" "[I" : Cond) ∈ v_X9_read := List.mem_of_getElem? (i := 7) (by decide +kernel)
theorem m_X9_read_7 : (.fieldLink RX9 51 "RestBoard$Table" "end" "I" : Cond) ∈ v_X9_read := List.mem_of_getElem? (i := 8) (by decide +kernel)
theorem i_X9_read_X9 : ∀ w ∈ u_ws RX9 TX9 15, w ∈ v_X9_read := fun w h => List.mem_cons_of_mem _ (List.mem_append_right _ h)
set_option maxHeartbeats 4000000 in
set_option maxRecDepth 100000 in
theorem c_X9_read (l : Launch) (dC : Nat → ClassId) (dI : Nat → Nat → Nat) (cy : Nat → ClassId) (a : Nat → Nat) (g : Nat → Nat → Option Nat) (sz : Nat) : Met l yX9_read v_X9_read ({ frames := 0, cells := 0, slots := 0, locals := 0 }) (va_Pc [.ref (a 24), .int 0, .int 1] (ps dC dI cy ([(a 24, .inr (9, [.ref (a 21), .ref (a 25), .int 0, .int 0, .int 0, .int (-1), .int 0, .ref (a 26), .ref (a 27), .int 0, .ref (a 63), .ref (a 64), .int 0, .int 0, .int 0])), (a 26, .inl (cy 0, 33, .inl (fun _ => 0))), (a 27, .inl (cy 0, 33, .inl (fun _ => 0)))]) sz)) (va_Qi (fun (r : Int32) (_ : uS) => r = 1) (fun (_ : uS) (t : State) => va_P (dC, dI) vwCl ([(a 24, .inr (9, [.ref (a 21), .ref (a 25), .int 0, .int 0, .int 0, .int 0, .int 1, .ref (a 26), .ref (a 27), .int 0, .ref (a 63), .ref (a 64), .int 0, .int 0, .int 0]))]) t.heap ∧ va_D (va_A ([(a 24, .inr (9, [.ref (a 21), .ref (a 25), .int 0, .int 0, .int 0, .int (-1), .int 0, .ref (a 26), .ref (a 27), .int 0, .ref (a 63), .ref (a 64), .int 0, .int 0, .int 0])), (a 26, .inl (cy 0, 33, .inl (fun _ => 0))), (a 27, .inl (cy 0, 33, .inl (fun _ => 0)))]) sz) ([(a 24, .inr (9, [.ref (a 21), .ref (a 25), .int 0, .int 0, .int 0, .int 0, .int 1, .ref (a 26), .ref (a 27), .int 0, .ref (a 63), .ref (a 64), .int 0, .int 0, .int 0]))])) (va_A ([(a 24, .inr (9, [.ref (a 21), .ref (a 25), .int 0, .int 0, .int 0, .int (-1), .int 0, .ref (a 26), .ref (a 27), .int 0, .ref (a 63), .ref (a 64), .int 0, .int 0, .int 0])), (a 26, .inl (cy 0, 33, .inl (fun _ => 0))), (a 27, .inl (cy 0, 33, .inl (fun _ => 0)))]) sz)) 0 0 (va_A ([(a 24, .inr (9, [.ref (a 21), .ref (a 25), .int 0, .int 0, .int 0, .int (-1), .int 0, .ref (a 26), .ref (a 27), .int 0, .ref (a 63), .ref (a 64), .int 0, .int 0, .int 0])), (a 26, .inl (cy 0, 33, .inl (fun _ => 0))), (a 27, .inl (cy 0, 33, .inl (fun _ => 0)))]) sz) := by
  refine Met.ofW (cc := cX9_read) (maxL := 4) (ret := (some .int)) (by decide) rfl ?_
  intro p e s m args below meth c s₁ B hml hv
  obtain ⟨rfl, hsz, hP, hC, hD0⟩ := hv
  have hK := hC.1
  have hx := B.exec
  have hb := B.bytes
  have hr := B.returns
  have hts := atoms_spec (ws := v_X9_read) B.pre
  have hown : s.vm.findClass RX9 = some m.cls := findClass_of_methodNamed B.named
  have hlocks := B.notSynchronized
  subst hsz
  have hD := hD0.self (sz := s.heap.size)
  generalize hAe : va_A ([(a 24, .inr (9, [.ref (a 21), .ref (a 25), .int 0, .int 0, .int 0, .int (-1), .int 0, .ref (a 26), .ref (a 27), .int 0, .ref (a 63), .ref (a 64), .int 0, .int 0, .int 0])), (a 26, .inl (cy 0, 33, .inl (fun _ => 0))), (a 27, .inl (cy 0, 33, .inl (fun _ => 0)))]) s.heap.size = A at hD ⊢
  have hA : ∀ q : Nat, s.heap.size ≤ q → A q := fun q h => by rw [← hAe]; exact Or.inr h
  have hS : va_S A s.heap s.heap [] := va_S.rf
  have hl := lv_entry ([.ref (a 24), .int 0, .int 1]) (n := 4) (Nat.le_of_ble_eq_true rfl)
  rw [lg_entry_eq]
  generalize (lg_sl ([.ref (a 24), .int 0, .int 1]) ++ List.replicate (4 - (lg_sl ([.ref (a 24), .int 0, .int 1])).length) Slot.unset).toArray = ls at hl ⊢
  have hl : lv_has ls 4 [(0, .ref (a 24)), (1, .int 0), (2, .int 1)] := hl
  refine lv_aload_n hx hb dX9_read_0 rfl (lv_at hl 0 rfl) ?_
  refine lv_iconst (v := 0) hx hb dX9_read_1 (by decide) ?_
  refine va_put (D := (dC, dI)) (ci := 9) (v := .int 0) (ty := .int) (C := RX9) (T := TX9) (N := 15) hx hb hts i_X9_read_X9 tyX9 tyX9_ok nmX9 hown hK hP hD hS 0 rfl rfl 3 (by decide) (hts _ m_X9_read_0) (fun _ h9 => h9) rfl (by decide +kernel) rfl rfl (Nat.le_of_ble_eq_true rfl) dX9_read_2 (fun H locs hP hD hS => ?_)
  have hP : va_P (dC, dI) vwCl ([(a 24, .inr (9, [.ref (a 21), .ref (a 25), .int 0, .int 0, .int 0, .int (-1), .int 0, .ref (a 26), .ref (a 27), .int 0, .ref (a 63), .ref (a 64), .int 0, .int 0, .int 0])), (a 26, .inl (cy 0, 33, .inl (fun _ => 0))), (a 27, .inl (cy 0, 33, .inl (fun _ => 0)))]) H := hP
  have hD : va_D A ([(a 24, .inr (9, [.ref (a 21), .ref (a 25), .int 0, .int 0, .int 0, .int (-1), .int 0, .ref (a 26), .ref (a 27), .int 0, .ref (a 63), .ref (a 64), .int 0, .int 0, .int 0])), (a 26, .inl (cy 0, 33, .inl (fun _ => 0))), (a 27, .inl (cy 0, 33, .inl (fun _ => 0)))]) := hD
  refine lv_aload_n hx hb dX9_read_5 rfl (lv_at hl 0 rfl) ?_
  refine lv_iload_n hx hb dX9_read_6 rfl (lv_at hl 2 rfl) ?_
  refine va_put (D := (dC, dI)) (ci := 9) (v := .int 1) (ty := .int) (C := RX9) (T := TX9) (N := 15) hx hb hts i_X9_read_X9 tyX9 tyX9_ok nmX9 hown hK hP hD hS 0 rfl rfl 6 (by decide) (hts _ m_X9_read_1) (fun _ h9 => h9) rfl (by decide +kernel) rfl rfl (Nat.le_of_ble_eq_true rfl) dX9_read_7 (fun H locs hP hD hS => ?_)
  refine lv_aload_n hx hb dX9_read_10 rfl (lv_at hl 0 rfl) ?_
  refine lv_aload_n hx hb dX9_read_11 rfl (lv_at hl 0 rfl) ?_
  refine va_get (D := (dC, dI)) (ci := 9) (v := .int 0) (C := RX9) (T := TX9) (N := 15) hx hb hts i_X9_read_X9 hown hK hP 0 rfl rfl 2 (by decide) (hts _ m_X9_read_2) (fun _ h9 => h9) rfl dX9_read_12 ?_
  refine lv_if_ne (tgt := 22) hx hb dX9_read_15 (by decide) (fun c9_ => absurd (by decide) c9_) (fun _ => ?_)
  refine lv_iconst (v := 0) hx hb dX9_read_18 (by decide) ?_
  refine lv_goto (tgt := 23) hx hb dX9_read_19 (by decide) ?_
  refine va_put (D := (dC, dI)) (ci := 9) (v := .int 0) (ty := .int) (C := RX9) (T := TX9) (N := 15) hx hb hts i_X9_read_X9 tyX9 tyX9_ok nmX9 hown hK hP hD hS 0 rfl rfl 5 (by decide) (hts _ m_X9_read_3) (fun _ h9 => h9) rfl (by decide +kernel) rfl rfl (Nat.le_of_ble_eq_true rfl) dX9_read_23 (fun H locs hP hD hS => ?_)
  refine lv_aload_n hx hb dX9_read_26 rfl (lv_at hl 0 rfl) ?_
  refine lv_iconst (v := 0) hx hb dX9_read_27 (by decide) ?_
  refine va_put (D := (dC, dI)) (ci := 9) (v := .int 0) (ty := .int) (C := RX9) (T := TX9) (N := 15) hx hb hts i_X9_read_X9 tyX9 tyX9_ok nmX9 hown hK hP hD hS 0 rfl rfl 9 (by decide) (hts _ m_X9_read_4) (fun _ h9 => h9) rfl (by decide +kernel) rfl rfl (Nat.le_of_ble_eq_true rfl) dX9_read_28 (fun H locs hP hD hS => ?_)
  refine lv_aload_n hx hb dX9_read_31 rfl (lv_at hl 0 rfl) ?_
  refine va_get (D := (dC, dI)) (ci := 9) (v := .ref (a 27)) (C := RX9) (T := TX9) (N := 15) hx hb hts i_X9_read_X9 hown hK hP 0 rfl rfl 8 (by decide) (hts _ m_X9_read_5) (fun _ h9 => h9) rfl dX9_read_32 ?_
  refine lv_iconst (v := 0) hx hb dX9_read_35 (by decide) ?_
  refine lv_iload_n hx hb dX9_read_36 rfl (lv_at hl 1 rfl) ?_
  refine va_iast hx hb hK hP hD hS 2 0 rfl rfl (show ¬ ((0 : Int32) < 0 ∨ 33 ≤ Int32.toNatClampNeg 0) by decide) dX9_read_37 (fun H locs hP hD hS => ?_)
  refine lv_aload_n hx hb dX9_read_38 rfl (lv_at hl 0 rfl) ?_
  refine va_get (D := (dC, dI)) (ci := 9) (v := .ref (a 26)) (C := RX9) (T := TX9) (N := 15) hx hb hts i_X9_read_X9 hown hK hP 0 rfl rfl 7 (by decide) (hts _ m_X9_read_6) (fun _ h9 => h9) rfl dX9_read_39 ?_
  refine lv_iconst (v := 0) hx hb dX9_read_42 (by decide) ?_
  refine lv_aload_n hx hb dX9_read_43 rfl (lv_at hl 0 rfl) ?_
  refine va_get (D := (dC, dI)) (ci := 9) (v := .int 0) (C := RX9) (T := TX9) (N := 15) hx hb hts i_X9_read_X9 hown hK hP 0 rfl rfl 2 (by decide) (hts _ m_X9_read_2) (fun _ h9 => h9) rfl dX9_read_44 ?_
  refine va_iast hx hb hK hP hD hS 1 0 rfl rfl (show ¬ ((0 : Int32) < 0 ∨ 33 ≤ Int32.toNatClampNeg 0) by decide) dX9_read_47 (fun H locs hP hD hS => ?_)
  refine lv_aload_n hx hb dX9_read_48 rfl (lv_at hl 0 rfl) ?_
  refine lv_aload_n hx hb dX9_read_49 rfl (lv_at hl 0 rfl) ?_
  refine va_get (D := (dC, dI)) (ci := 9) (v := .int 0) (C := RX9) (T := TX9) (N := 15) hx hb hts i_X9_read_X9 hown hK hP 0 rfl rfl 2 (by decide) (hts _ m_X9_read_2) (fun _ h9 => h9) rfl dX9_read_50 ?_
  refine va_put (D := (dC, dI)) (ci := 9) (v := .int 0) (ty := .int) (C := RX9) (T := TX9) (N := 15) hx hb hts i_X9_read_X9 tyX9 tyX9_ok nmX9 hown hK hP hD hS 0 rfl rfl 4 (by decide) (hts _ m_X9_read_7) (fun _ h9 => h9) rfl (by decide +kernel) rfl rfl (Nat.le_of_ble_eq_true rfl) dX9_read_53 (fun H locs hP hD hS => ?_)
  refine lv_iconst (v := 0) hx hb dX9_read_56 (by decide) ?_
  refine lv_istore_n (lv' := [(3, .int 0), (0, .ref (a 24)), (1, .int 0), (2, .int 1)]) hx hb dX9_read_57 rfl hl (by decide) rfl (fun ls hl => ?_)
  refine lv_iload_n hx hb dX9_read_58 rfl (lv_at hl 0 rfl) ?_
  refine lv_sipush (v := 800) hx hb dX9_read_59 (by decide) ?_
  refine lv_icmp_gt (tgt := 151) hx hb dX9_read_62 (by decide) (fun c9_ => absurd c9_ (by decide)) (fun _ => ?_)
  refine lv_aload_n hx hb dX9_read_65 rfl (lv_at hl 1 rfl) ?_
  refine va_get (D := (dC, dI)) (ci := 9) (v := .int 0) (C := RX9) (T := TX9) (N := 15) hx hb hts i_X9_read_X9 hown hK hP 0 rfl rfl 5 (by decide) (hts _ m_X9_read_3) (fun _ h9 => h9) rfl dX9_read_66 ?_
  refine lv_iconst (v := (-1)) hx hb dX9_read_69 (by decide) ?_
  refine lv_icmp_ne (tgt := 151) hx hb dX9_read_70 (by decide) (fun _ => ?_) (fun c9_ => absurd c9_ (by decide))
  refine lv_aload_n hx hb dX9_read_151 rfl (lv_at hl 1 rfl) ?_
  refine va_get (D := (dC, dI)) (ci := 9) (v := .int 1) (C := RX9) (T := TX9) (N := 15) hx hb hts i_X9_read_X9 hown hK hP 0 rfl rfl 6 (by decide) (hts _ m_X9_read_1) (fun _ h9 => h9) rfl dX9_read_152 ?_
  have hP9 := hP.sub (ws' := [(a 24, .inr (9, [.ref (a 21), .ref (a 25), .int 0, .int 0, .int 0, .int 0, .int 1, .ref (a 26), .ref (a 27), .int 0, .ref (a 63), .ref (a 64), .int 0, .int 0, .int 0]))]) [0] rfl
  have hD9 := hD.sub (ws' := [(a 24, .inr (9, [.ref (a 21), .ref (a 25), .int 0, .int 0, .int 0, .int 0, .int 1, .ref (a 26), .ref (a 27), .int 0, .ref (a 63), .ref (a 64), .int 0, .int 0, .int 0]))]) [0] (by decide) rfl
  exact W.iret (v := 1) hx hb hr (fun t ht hW => ⟨⟨1, ((fun k => [].getD k 0, fun k => [].getD k (fun _ => 0), fun k => [].getD k (fun _ => none)) : uS), rfl, rfl, (by rw [ht]; exact hP9), hD9⟩, hS.F ht⟩) hS.2.2 dX9_read_155

theorem dX9_faultAt_0 : decode cX9_faultAt 0 = .ok (.aload_n 0, 1) := by decide +kernel
theorem dX9_faultAt_1 : decode cX9_faultAt 1 = .ok (.getfield 15, 3) := by decide +kernel
theorem dX9_faultAt_4 : decode cX9_faultAt 4 = .ok (.ireturn, 1) := by decide +kernel
def v_X9_faultAt : List Cond := .code yX9_faultAt cX9_faultAt 1 (some .int) :: ([.fieldLink RX9 15 "RestBoard$Table" "faultPlace" "I"] ++ wsX90)
theorem m_X9_faultAt_0 : (.fieldLink RX9 15 "RestBoard$Table" "faultPlace" "I" : Cond) ∈ v_X9_faultAt := List.mem_of_getElem? (i := 1) (by decide +kernel)
theorem i_X9_faultAt_X9 : ∀ w ∈ u_ws RX9 TX9 15, w ∈ v_X9_faultAt := fun w h => List.mem_cons_of_mem _ (List.mem_append_right _ h)
set_option maxHeartbeats 4000000 in
set_option maxRecDepth 100000 in
theorem c_X9_faultAt (l : Launch) (dC : Nat → ClassId) (dI : Nat → Nat → Nat) (cy : Nat → ClassId) (a : Nat → Nat) (g : Nat → Nat → Option Nat) : Met l yX9_faultAt v_X9_faultAt ({ frames := 0, cells := 0, slots := 0, locals := 0 }) (va_Pc [.ref (a 24)] (pp dC dI cy ([(a 24, .inr (9, [.ref (a 21), .ref (a 25), .int 0, .int 0, .int 0, .int 0, .int 1, .ref (a 26), .ref (a 27), .int 0, .ref (a 63), .ref (a 64), .int 0, .int 0, .int 0]))]))) (va_Qi (fun (r : Int32) (_ : Unit) => r = 0) (fun _ _ => True) (fun _ => False)) 0 0 (fun _ => False) := by
  refine Met.ofW (cc := cX9_faultAt) (maxL := 1) (ret := (some .int)) (by decide) rfl ?_
  intro p e s m args below meth c s₁ B hml hv
  obtain ⟨rfl, hP, hC⟩ := hv
  have hK := hC.1
  have hx := B.exec
  have hb := B.bytes
  have hr := B.returns
  have hts := atoms_spec (ws := v_X9_faultAt) B.pre
  have hown : s.vm.findClass RX9 = some m.cls := findClass_of_methodNamed B.named
  have hlocks := B.notSynchronized
  have hS : va_S (fun _ => False) s.heap s.heap [] := va_S.rf
  have hl := lv_entry ([.ref (a 24)]) (n := 1) (Nat.le_of_ble_eq_true rfl)
  rw [lg_entry_eq]
  generalize (lg_sl ([.ref (a 24)]) ++ List.replicate (1 - (lg_sl ([.ref (a 24)])).length) Slot.unset).toArray = ls at hl ⊢
  have hl : lv_has ls 1 [(0, .ref (a 24))] := hl
  refine lv_aload_n hx hb dX9_faultAt_0 rfl (lv_at hl 0 rfl) ?_
  refine va_get (D := (dC, dI)) (ci := 9) (v := .int 0) (C := RX9) (T := TX9) (N := 15) hx hb hts i_X9_faultAt_X9 hown hK hP 0 rfl rfl 5 (by decide) (hts _ m_X9_faultAt_0) (fun _ h9 => h9) rfl dX9_faultAt_1 ?_
  exact W.iret (v := 0) hx hb hr (fun t ht hW => ⟨⟨0, (), rfl, rfl, trivial⟩, hS.F ht⟩) hS.2.2 dX9_faultAt_4

set_option maxHeartbeats 4000000 in
set_option maxRecDepth 100000 in
theorem c_X9_cut_r (l : Launch) (dC : Nat → ClassId) (dI : Nat → Nat → Nat) (cy : Nat → ClassId) (a : Nat → Nat) (g : Nat → Nat → Option Nat) (sz : Nat) : Met l yX9_cut v_X9_cut ({ frames := 0, cells := 0, slots := 0, locals := 0 }) (va_Pc [.ref (a 24), .int 0] (ps dC dI cy ([(a 24, .inr (9, [.ref (a 21), .ref (a 25), .int 0, .int 0, .int 0, .int 0, .int 1, .ref (a 26), .ref (a 27), .int 0, .ref (a 63), .ref (a 64), .int 0, .int 0, .int 0]))]) sz)) (va_Qi (fun (r : Int32) (_ : Unit) => r = 0) (fun _ _ => True) (va_A ([(a 24, .inr (9, [.ref (a 21), .ref (a 25), .int 0, .int 0, .int 0, .int 0, .int 1, .ref (a 26), .ref (a 27), .int 0, .ref (a 63), .ref (a 64), .int 0, .int 0, .int 0]))]) sz)) 0 0 (va_A ([(a 24, .inr (9, [.ref (a 21), .ref (a 25), .int 0, .int 0, .int 0, .int 0, .int 1, .ref (a 26), .ref (a 27), .int 0, .ref (a 63), .ref (a 64), .int 0, .int 0, .int 0]))]) sz) := by
  refine Met.ofW (cc := cX9_cut) (maxL := 2) (ret := (some .int)) (by decide) rfl ?_
  intro p e s m args below meth c s₁ B hml hv
  obtain ⟨rfl, hsz, hP, hC, hD0⟩ := hv
  have hK := hC.1
  have hx := B.exec
  have hb := B.bytes
  have hr := B.returns
  have hts := atoms_spec (ws := v_X9_cut) B.pre
  have hown : s.vm.findClass RX9 = some m.cls := findClass_of_methodNamed B.named
  have hlocks := B.notSynchronized
  subst hsz
  have hD := hD0.self (sz := s.heap.size)
  generalize hAe : va_A ([(a 24, .inr (9, [.ref (a 21), .ref (a 25), .int 0, .int 0, .int 0, .int 0, .int 1, .ref (a 26), .ref (a 27), .int 0, .ref (a 63), .ref (a 64), .int 0, .int 0, .int 0]))]) s.heap.size = A at hD ⊢
  have hA : ∀ q : Nat, s.heap.size ≤ q → A q := fun q h => by rw [← hAe]; exact Or.inr h
  have hS : va_S A s.heap s.heap [] := va_S.rf
  have hl := lv_entry ([.ref (a 24), .int 0]) (n := 2) (Nat.le_of_ble_eq_true rfl)
  rw [lg_entry_eq]
  generalize (lg_sl ([.ref (a 24), .int 0]) ++ List.replicate (2 - (lg_sl ([.ref (a 24), .int 0])).length) Slot.unset).toArray = ls at hl ⊢
  have hl : lv_has ls 2 [(0, .ref (a 24)), (1, .int 0)] := hl
  refine lv_iload_n hx hb dX9_cut_0 rfl (lv_at hl 1 rfl) ?_
  refine lv_if_lt (tgt := 12) hx hb dX9_cut_1 (by decide) (fun c9_ => absurd c9_ (by decide)) (fun _ => ?_)
  refine lv_iload_n hx hb dX9_cut_4 rfl (lv_at hl 1 rfl) ?_
  refine lv_aload_n hx hb dX9_cut_5 rfl (lv_at hl 0 rfl) ?_
  refine va_get (D := (dC, dI)) (ci := 9) (v := .int 0) (C := RX9) (T := TX9) (N := 15) hx hb hts i_X9_cut_X9 hown hK hP 0 rfl rfl 2 (by decide) (hts _ m_X9_cut_0) (fun _ h9 => h9) rfl dX9_cut_6 ?_
  refine lv_icmp_le (tgt := 14) hx hb dX9_cut_9 (by decide) (fun _ => ?_) (fun c9_ => absurd (by decide) c9_)
  refine lv_aload_n hx hb dX9_cut_14 rfl (lv_at hl 0 rfl) ?_
  refine lv_iload_n hx hb dX9_cut_15 rfl (lv_at hl 1 rfl) ?_
  refine va_put (D := (dC, dI)) (ci := 9) (v := .int 0) (ty := .int) (C := RX9) (T := TX9) (N := 15) hx hb hts i_X9_cut_X9 tyX9 tyX9_ok nmX9 hown hK hP hD hS 0 rfl rfl 2 (by decide) (hts _ m_X9_cut_0) (fun _ h9 => h9) rfl (by decide +kernel) rfl rfl (Nat.le_of_ble_eq_true rfl) dX9_cut_16 (fun H locs hP hD hS => ?_)
  have hP : va_P (dC, dI) vwCl ([(a 24, .inr (9, [.ref (a 21), .ref (a 25), .int 0, .int 0, .int 0, .int 0, .int 1, .ref (a 26), .ref (a 27), .int 0, .ref (a 63), .ref (a 64), .int 0, .int 0, .int 0]))]) H := hP
  have hD : va_D A ([(a 24, .inr (9, [.ref (a 21), .ref (a 25), .int 0, .int 0, .int 0, .int 0, .int 1, .ref (a 26), .ref (a 27), .int 0, .ref (a 63), .ref (a 64), .int 0, .int 0, .int 0]))]) := hD
  refine lv_iload_n hx hb dX9_cut_19 rfl (lv_at hl 1 rfl) ?_
  exact W.iret (v := 0) hx hb hr (fun t ht hW => ⟨⟨0, (), rfl, rfl, trivial⟩, hS.F ht⟩) hS.2.2 dX9_cut_20

theorem dX11_load_0 : decode cX11_load 0 = .ok (.aload_n 0, 1) := by decide +kernel
theorem dX11_load_1 : decode cX11_load 1 = .ok (.getfield 24, 3) := by decide +kernel
theorem dX11_load_4 : decode cX11_load 4 = .ok (.iload_n 1, 1) := by decide +kernel
theorem dX11_load_5 : decode cX11_load 5 = .ok (.iconst 1, 1) := by decide +kernel
theorem dX11_load_6 : decode cX11_load 6 = .ok (.invokevirtual 85, 3) := by decide +kernel
theorem dX11_load_9 : decode cX11_load 9 = .ok (.ifCond .ne 10, 3) := by decide +kernel
theorem dX11_load_12 : decode cX11_load 12 = .ok (.aload_n 0, 1) := by decide +kernel
theorem dX11_load_13 : decode cX11_load 13 = .ok (.bipush (-2), 2) := by decide +kernel
theorem dX11_load_15 : decode cX11_load 15 = .ok (.invokevirtual 89, 3) := by decide +kernel
theorem dX11_load_18 : decode cX11_load 18 = .ok (.ireturn, 1) := by decide +kernel
theorem dX11_load_19 : decode cX11_load 19 = .ok (.aload_n 0, 1) := by decide +kernel
theorem dX11_load_20 : decode cX11_load 20 = .ok (.getfield 10, 3) := by decide +kernel
theorem dX11_load_23 : decode cX11_load 23 = .ok (.getfield 92, 3) := by decide +kernel
theorem dX11_load_26 : decode cX11_load 26 = .ok (.ifCond .eq 10, 3) := by decide +kernel
theorem dX11_load_36 : decode cX11_load 36 = .ok (.aload_n 0, 1) := by decide +kernel
theorem dX11_load_37 : decode cX11_load 37 = .ok (.getfield 33, 3) := by decide +kernel
theorem dX11_load_40 : decode cX11_load 40 = .ok (.iload_n 1, 1) := by decide +kernel
theorem dX11_load_41 : decode cX11_load 41 = .ok (.aload_n 0, 1) := by decide +kernel
theorem dX11_load_42 : decode cX11_load 42 = .ok (.getfield 10, 3) := by decide +kernel
theorem dX11_load_45 : decode cX11_load 45 = .ok (.getfield 95, 3) := by decide +kernel
theorem dX11_load_48 : decode cX11_load 48 = .ok (.invokevirtual 98, 3) := by decide +kernel
theorem dX11_load_51 : decode cX11_load 51 = .ok (.istore_n 2, 1) := by decide +kernel
theorem dX11_load_52 : decode cX11_load 52 = .ok (.aload_n 0, 1) := by decide +kernel
theorem dX11_load_53 : decode cX11_load 53 = .ok (.aload_n 0, 1) := by decide +kernel
theorem dX11_load_54 : decode cX11_load 54 = .ok (.getfield 33, 3) := by decide +kernel
theorem dX11_load_57 : decode cX11_load 57 = .ok (.invokevirtual 102, 3) := by decide +kernel
theorem dX11_load_60 : decode cX11_load 60 = .ok (.putfield 73, 3) := by decide +kernel
theorem dX11_load_63 : decode cX11_load 63 = .ok (.aload_n 0, 1) := by decide +kernel
theorem dX11_load_64 : decode cX11_load 64 = .ok (.getfield 33, 3) := by decide +kernel
theorem dX11_load_67 : decode cX11_load 67 = .ok (.iconst 0, 1) := by decide +kernel
theorem dX11_load_68 : decode cX11_load 68 = .ok (.invokevirtual 81, 3) := by decide +kernel
theorem dX11_load_71 : decode cX11_load 71 = .ok (.pop, 1) := by decide +kernel
theorem dX11_load_72 : decode cX11_load 72 = .ok (.aload_n 0, 1) := by decide +kernel
theorem dX11_load_73 : decode cX11_load 73 = .ok (.getfield 73, 3) := by decide +kernel
theorem dX11_load_76 : decode cX11_load 76 = .ok (.iconst (-1), 1) := by decide +kernel
theorem dX11_load_77 : decode cX11_load 77 = .ok (.if_icmp .eq 10, 3) := by decide +kernel
theorem dX11_load_80 : decode cX11_load 80 = .ok (.aload_n 0, 1) := by decide +kernel
theorem dX11_load_81 : decode cX11_load 81 = .ok (.bipush (-6), 2) := by decide +kernel
theorem dX11_load_83 : decode cX11_load 83 = .ok (.invokevirtual 89, 3) := by decide +kernel
theorem dX11_load_86 : decode cX11_load 86 = .ok (.ireturn, 1) := by decide +kernel
def v_X11_load : List Cond := .code yX11_load cX11_load 4 (some .int) :: ([.fieldLink RX11 24 "RestBoard" "tree" "LRestBoard$Tree;", .fieldLink RX11 10 "RestBoard" "now" "LRestBoard$State;", .fieldLink RX11 92 "RestBoard$State" "resting" "I", .fieldLink RX11 33 "RestBoard" "table" "LRestBoard$Table;", .fieldLink RX11 95 "RestBoard$State" "size" "I", .fieldLink RX11 73 "RestBoard" "latestFault" "I", .methodLink RX11 85 yX10_is, .instanceMethod yX10_is, .selects RX10 yX10_is yX10_is, .initialized RX10, .code yX10_is cX10_is 3 (some .boolean), .fieldLink RX10 11 "RestBoard$Tree" "nodes" "[LRestBoard$Node;", .fieldLink RX10 36 "RestBoard$Node" "kind" "I", .methodLink RX10 32 yX10_has, .instanceMethod yX10_has, .selects RX10 yX10_has yX10_has, .code yX10_has cX10_has 2 (some .boolean), .fieldLink RX10 17 "RestBoard$Tree" "now" "LRestBoard$State;", .fieldLink RX10 26 "RestBoard$State" "size" "I", .methodLink RX11 89 yX11_refuse, .instanceMethod yX11_refuse, .selects RX11 yX11_refuse yX11_refuse, .initialized RX11, .code yX11_refuse cX11_refuse 3 (some .int), .fieldLink RX11 293 "RestBoard" "refusedBy" "I", .fieldLink RX11 69 "RestBoard" "refusals" "[I", .methodLink RX11 98 yX9_read, .instanceMethod yX9_read, .selects RX9 yX9_read yX9_read, .initialized RX9, .code yX9_read cX9_read 4 (some .int), .fieldLink RX9 42 "RestBoard$Table" "at" "I", .fieldLink RX9 45 "RestBoard$Table" "size" "I", .fieldLink RX9 35 "RestBoard$Table" "length" "I", .fieldLink RX9 15 "RestBoard$Table" "faultPlace" "I", .fieldLink RX9 48 "RestBoard$Table" "devicesOpen" "I", .fieldLink RX9 22 "RestBoard$Table" "devices" "[I", .fieldLink RX9 19 "RestBoard$Table" "deviceEnds" "[I", .fieldLink RX9 51 "RestBoard$Table" "end" "I", .methodLink RX11 102 yX9_faultAt, .instanceMethod yX9_faultAt, .selects RX9 yX9_faultAt yX9_faultAt, .code yX9_faultAt cX9_faultAt 1 (some .int), .methodLink RX11 81 yX9_cut, .instanceMethod yX9_cut, .selects RX9 yX9_cut yX9_cut, .code yX9_cut cX9_cut 2 (some .int)] ++ wsX110 ++ wsX80 ++ wsX100 ++ wsX40 ++ wsX90)
theorem m_X11_load_0 : (.fieldLink RX11 24 "RestBoard" "tree" "LRestBoard$Tree;" : Cond) ∈ v_X11_load := List.mem_of_getElem? (i := 1) (by decide +kernel)
theorem m_X11_load_1 : (.fieldLink RX11 10 "RestBoard" "now" "LRestBoard$State;" : Cond) ∈ v_X11_load := List.mem_of_getElem? (i := 2) (by decide +kernel)
theorem m_X11_load_2 : (.fieldLink RX11 92 "RestBoard$State" "resting" "I" : Cond) ∈ v_X11_load := List.mem_of_getElem? (i := 3) (by decide +kernel)
theorem m_X11_load_3 : (.fieldLink RX11 33 "RestBoard" "table" "LRestBoard$Table;" : Cond) ∈ v_X11_load := List.mem_of_getElem? (i := 4) (by decide +kernel)
theorem m_X11_load_4 : (.fieldLink RX11 95 "RestBoard$State" "size" "I" : Cond) ∈ v_X11_load := List.mem_of_getElem? (i := 5) (by decide +kernel)
theorem m_X11_load_5 : (.fieldLink RX11 73 "RestBoard" "latestFault" "I" : Cond) ∈ v_X11_load := List.mem_of_getElem? (i := 6) (by decide +kernel)
theorem i_X11_load_X11 : ∀ w ∈ u_ws RX11 TX11 11, w ∈ v_X11_load := fun w h => List.mem_cons_of_mem _ (List.mem_append_left _ (List.mem_append_left _ (List.mem_append_left _ (List.mem_append_left _ (List.mem_append_right _ h)))))
theorem i_X11_load_X8 : ∀ w ∈ u_ws RX8 TX8 17, w ∈ v_X11_load := fun w h => List.mem_cons_of_mem _ (List.mem_append_left _ (List.mem_append_left _ (List.mem_append_left _ (List.mem_append_right _ h))))
set_option maxRecDepth 100000 in
theorem gg_X11_load_X10_is_85 : GoodIn v_X11_load v_X10_is := goodIn_r _ [11, 12, 13, 14, 15, 16, 10, 17, 18, 19, 76, 77, 78, 79, 80, 81, 82, 83, 84, 85, 86, 87, 88, 89, 90, 91, 59, 60, 61, 62, 63, 64, 65, 66, 67, 68, 69, 70, 71, 72, 73, 74, 75] (by decide +kernel) (by decide +kernel)
set_option maxRecDepth 100000 in
theorem g_X11_load_X10_is_85 : GoodIn v_X11_load (wsV RX11 85 RX10 yX10_is v_X10_is) := goodIn_app (goodIn_r _ [7, 8, 9, 10] (by decide +kernel) (by decide +kernel)) gg_X11_load_X10_is_85
set_option maxRecDepth 100000 in
theorem gg_X11_load_X11_refuse_89 : GoodIn v_X11_load v_X11_refuse := goodIn_r _ [24, 25, 26, 48, 49, 50, 51, 52, 53, 54, 55, 56, 57, 58] (by decide +kernel) (by decide +kernel)
set_option maxRecDepth 100000 in
theorem g_X11_load_X11_refuse_89 : GoodIn v_X11_load (wsV RX11 89 RX11 yX11_refuse v_X11_refuse) := goodIn_app (goodIn_r _ [20, 21, 22, 23] (by decide +kernel) (by decide +kernel)) gg_X11_load_X11_refuse_89
set_option maxRecDepth 100000 in
theorem gg_X11_load_X9_read_98 : GoodIn v_X11_load v_X9_read := goodIn_r _ [31, 32, 33, 34, 35, 36, 37, 38, 39, 92, 93, 94, 95, 96, 97, 98, 99, 100, 101, 102, 103, 104, 105, 106] (by decide +kernel) (by decide +kernel)
set_option maxRecDepth 100000 in
theorem g_X11_load_X9_read_98 : GoodIn v_X11_load (wsV RX11 98 RX9 yX9_read v_X9_read) := goodIn_app (goodIn_r _ [27, 28, 29, 30] (by decide +kernel) (by decide +kernel)) gg_X11_load_X9_read_98
set_option maxRecDepth 100000 in
theorem gg_X11_load_X9_faultAt_102 : GoodIn v_X11_load v_X9_faultAt := goodIn_r _ [43, 35, 92, 93, 94, 95, 96, 97, 98, 99, 100, 101, 102, 103, 104, 105, 106] (by decide +kernel) (by decide +kernel)
set_option maxRecDepth 100000 in
theorem g_X11_load_X9_faultAt_102 : GoodIn v_X11_load (wsV RX11 102 RX9 yX9_faultAt v_X9_faultAt) := goodIn_app (goodIn_r _ [40, 41, 42, 30] (by decide +kernel) (by decide +kernel)) gg_X11_load_X9_faultAt_102
set_option maxRecDepth 100000 in
theorem gg_X11_load_X9_cut_81 : GoodIn v_X11_load v_X9_cut := goodIn_r _ [47, 34, 92, 93, 94, 95, 96, 97, 98, 99, 100, 101, 102, 103, 104, 105, 106] (by decide +kernel) (by decide +kernel)
set_option maxRecDepth 100000 in
theorem g_X11_load_X9_cut_81 : GoodIn v_X11_load (wsV RX11 81 RX9 yX9_cut v_X9_cut) := goodIn_app (goodIn_r _ [44, 45, 46, 30] (by decide +kernel) (by decide +kernel)) gg_X11_load_X9_cut_81
set_option maxHeartbeats 4000000 in
set_option maxRecDepth 100000 in
theorem c_X11_load (l : Launch) (dC : Nat → ClassId) (dI : Nat → Nat → Nat) (cy : Nat → ClassId) (a : Nat → Nat) (g : Nat → Nat → Option Nat) (sz : Nat) (p0 : Int32) : Met l yX11_load v_X11_load ({ frames := 2, cells := 0, slots := 0, locals := 43 }) (va_Pc [.ref (a 0), .int p0] (ps dC dI cy (fw a cy g) sz)) (va_Qi (fun (r : Int32) (_ : Unit) => ((p0 < 0) ∧ r = (-2)) ∨ ((¬ p0 < 0) ∧ ((1 : Int32) ≤ p0) ∧ r = (-2)) ∨ ((p0 = 0) ∧ r = (-6))) (fun _ _ => True) (va_A (fw a cy g) sz)) 0 0 (va_A (fw a cy g) sz) := by
  refine Met.ofW (cc := cX11_load) (maxL := 4) (ret := (some .int)) (by decide) rfl ?_
  intro p e s m args below meth c s₁ B hml hv
  obtain ⟨rfl, hsz, hP, hC, hD0⟩ := hv
  have hK := hC.1
  have hx := B.exec
  have hb := B.bytes
  have hr := B.returns
  have hts := atoms_spec (ws := v_X11_load) B.pre
  have hown : s.vm.findClass RX11 = some m.cls := findClass_of_methodNamed B.named
  have hlocks := B.notSynchronized
  subst hsz
  have hD := hD0.self (sz := s.heap.size)
  generalize hAe : va_A (fw a cy g) s.heap.size = A at hD ⊢
  have hA : ∀ q : Nat, s.heap.size ≤ q → A q := fun q h => by rw [← hAe]; exact Or.inr h
  have hS : va_S A s.heap s.heap [] := va_S.rf
  have hl := lv_entry ([.ref (a 0), .int p0]) (n := 4) (Nat.le_of_ble_eq_true rfl)
  rw [lg_entry_eq]
  generalize (lg_sl ([.ref (a 0), .int p0]) ++ List.replicate (4 - (lg_sl ([.ref (a 0), .int p0])).length) Slot.unset).toArray = ls at hl ⊢
  have hl : lv_has ls 4 [(0, .ref (a 0)), (1, .int p0)] := hl
  refine lv_aload_n hx hb dX11_load_0 rfl (lv_at hl 0 rfl) ?_
  refine va_get (D := (dC, dI)) (ci := 11) (v := .ref (a 21)) (C := RX11) (T := TX11) (N := 11) hx hb hts i_X11_load_X11 hown hK hP 0 rfl rfl 2 (by decide) (hts _ m_X11_load_0) (fun _ h9 => h9) rfl dX11_load_1 ?_
  refine lv_iload_n hx hb dX11_load_4 rfl (lv_at hl 1 rfl) ?_
  refine lv_iconst (v := 1) hx hb dX11_load_5 (by decide) ?_
  refine tk_pi (va_runV (As := [.int p0, .int 1]) (rest := []) ⟨hx, hb, hml, hown, hts⟩ (c_X10_is l dC dI cy a g p0 1) (cwV 2 hts g_X11_load_X10_is_85 rfl rfl rfl (by decide +kernel) ⟨Nat.le_of_ble_eq_true rfl, Nat.le_of_ble_eq_true rfl⟩) (pv_pp hC hP (ci := 10) (q0 := 21) rfl rfl) rfl rfl hl.1 rfl (lv_room (Nat.le_of_ble_eq_true rfl)) dX11_load_6 ⟨Nat.le_of_ble_eq_true rfl, Nat.le_of_ble_eq_true rfl⟩) hP hS (fun r_ H locs hw hP hS => ?_)
  rcases hw with ⟨c1_, rfl⟩ | ⟨c2_, c3_, rfl⟩ | ⟨c4_, c5_, rfl⟩ | ⟨c6_, -, rfl⟩
  · skip
    refine lv_if_ne (tgt := 19) hx hb dX11_load_9 (by decide) (fun c9_ => absurd (by decide) c9_) (fun _ => ?_)
    refine lv_aload_n hx hb dX11_load_12 rfl (lv_at hl 0 rfl) ?_
    refine lv_bipush (v := (-2)) hx hb dX11_load_13 (by decide) ?_
    have hPc : va_P (dC, dI) vwCl ([(a 0, .inr (11, [.ref (a 1), .ref (a 60), .ref (a 21), .ref (a 24), .ref (a 28), .ref (a 30), .ref (a 31), .ref (a 32), .ref (a 55), .int 0, .int (-1)])), (a 55, .inl (cy 0, 7, .inl (fun _ => 0)))]) _ := hP.sub [0, 55] rfl
    have hDc := hD.sub (ws' := [(a 0, .inr (11, [.ref (a 1), .ref (a 60), .ref (a 21), .ref (a 24), .ref (a 28), .ref (a 30), .ref (a 31), .ref (a 32), .ref (a 55), .int 0, .int (-1)])), (a 55, .inl (cy 0, 7, .inl (fun _ => 0)))]) [0, 55] (by decide) rfl
    have hFc := va_free (wc := [(a 0, .inr (11, [.ref (a 1), .ref (a 60), .ref (a 21), .ref (a 24), .ref (a 28), .ref (a 30), .ref (a 31), .ref (a 32), .ref (a 55), .int 0, .int (-1)])), (a 55, .inl (cy 0, 7, .inl (fun _ => 0)))]) hD hS hA [0, 55] rfl
    refine va_calli (va_runV (As := [.int (-2)]) (rest := []) ⟨hx, hb, hml, hown, hts⟩ (c_X11_refuse l dC dI cy a g _ (-2) (-1)) (cwV 1 hts g_X11_load_X11_refuse_89 rfl rfl rfl (by decide +kernel) ⟨Nat.le_of_ble_eq_true rfl, Nat.le_of_ble_eq_true rfl⟩) (pv_ps hC hPc hDc (ci := 11) (q0 := 0) rfl rfl) rfl rfl hl.1 rfl (lv_room (Nat.le_of_ble_eq_true rfl)) dX11_load_15 ⟨Nat.le_of_ble_eq_true rfl, Nat.le_of_ble_eq_true rfl⟩) hS (fun q _ h => hFc q h) hFc (fun r_ u t_ H1 locs ht hvm hw hB hz1 hk1 hS => ?_)
    obtain ⟨hP, hD⟩ := va_join (wr := []) (w1 := []) hP hD [0, 55] [] rfl rfl (by decide) (by decide) hk1 hFc va_P0 va_D0
    generalize H1 = H at hP hS ⊢
    have hP : va_P (dC, dI) vwCl ([]) H := hP
    have hD : va_D A ([]) := hD
    rcases hw with ⟨c8_, rfl⟩ | ⟨-, c10_, rfl⟩ | ⟨-, -, rfl⟩
    · skip
      exact absurd c8_ (by decide)
    · skip
      exact absurd c10_ (by decide)
    · skip
      exact W.iret (v := (-2)) hx hb hr (fun t ht hW => ⟨⟨(-2), (), rfl, Or.inl (⟨c1_, rfl⟩), trivial⟩, hS.F ht⟩) hS.2.2 dX11_load_18
  · skip
    refine lv_if_ne (tgt := 19) hx hb dX11_load_9 (by decide) (fun c9_ => absurd (by decide) c9_) (fun _ => ?_)
    refine lv_aload_n hx hb dX11_load_12 rfl (lv_at hl 0 rfl) ?_
    refine lv_bipush (v := (-2)) hx hb dX11_load_13 (by decide) ?_
    have hPc : va_P (dC, dI) vwCl ([(a 0, .inr (11, [.ref (a 1), .ref (a 60), .ref (a 21), .ref (a 24), .ref (a 28), .ref (a 30), .ref (a 31), .ref (a 32), .ref (a 55), .int 0, .int (-1)])), (a 55, .inl (cy 0, 7, .inl (fun _ => 0)))]) _ := hP.sub [0, 55] rfl
    have hDc := hD.sub (ws' := [(a 0, .inr (11, [.ref (a 1), .ref (a 60), .ref (a 21), .ref (a 24), .ref (a 28), .ref (a 30), .ref (a 31), .ref (a 32), .ref (a 55), .int 0, .int (-1)])), (a 55, .inl (cy 0, 7, .inl (fun _ => 0)))]) [0, 55] (by decide) rfl
    have hFc := va_free (wc := [(a 0, .inr (11, [.ref (a 1), .ref (a 60), .ref (a 21), .ref (a 24), .ref (a 28), .ref (a 30), .ref (a 31), .ref (a 32), .ref (a 55), .int 0, .int (-1)])), (a 55, .inl (cy 0, 7, .inl (fun _ => 0)))]) hD hS hA [0, 55] rfl
    refine va_calli (va_runV (As := [.int (-2)]) (rest := []) ⟨hx, hb, hml, hown, hts⟩ (c_X11_refuse l dC dI cy a g _ (-2) (-1)) (cwV 1 hts g_X11_load_X11_refuse_89 rfl rfl rfl (by decide +kernel) ⟨Nat.le_of_ble_eq_true rfl, Nat.le_of_ble_eq_true rfl⟩) (pv_ps hC hPc hDc (ci := 11) (q0 := 0) rfl rfl) rfl rfl hl.1 rfl (lv_room (Nat.le_of_ble_eq_true rfl)) dX11_load_15 ⟨Nat.le_of_ble_eq_true rfl, Nat.le_of_ble_eq_true rfl⟩) hS (fun q _ h => hFc q h) hFc (fun r_ u t_ H1 locs ht hvm hw hB hz1 hk1 hS => ?_)
    obtain ⟨hP, hD⟩ := va_join (wr := []) (w1 := []) hP hD [0, 55] [] rfl rfl (by decide) (by decide) hk1 hFc va_P0 va_D0
    generalize H1 = H at hP hS ⊢
    have hP : va_P (dC, dI) vwCl ([]) H := hP
    have hD : va_D A ([]) := hD
    rcases hw with ⟨c13_, rfl⟩ | ⟨-, c15_, rfl⟩ | ⟨-, -, rfl⟩
    · skip
      exact absurd c13_ (by decide)
    · skip
      exact absurd c15_ (by decide)
    · skip
      exact W.iret (v := (-2)) hx hb hr (fun t ht hW => ⟨⟨(-2), (), rfl, Or.inr (Or.inl (⟨c2_, c3_, rfl⟩)), trivial⟩, hS.F ht⟩) hS.2.2 dX11_load_18
  · skip
    exact absurd c5_ (by decide)
  · skip
    subst c6_
    refine lv_if_ne (tgt := 19) hx hb dX11_load_9 (by decide) (fun _ => ?_) (fun c9_ => absurd c9_ (by decide))
    refine lv_aload_n hx hb dX11_load_19 rfl (lv_at hl 0 rfl) ?_
    refine va_get (D := (dC, dI)) (ci := 11) (v := .ref (a 1)) (C := RX11) (T := TX11) (N := 11) hx hb hts i_X11_load_X11 hown hK hP 0 rfl rfl 0 (by decide) (hts _ m_X11_load_1) (fun _ h9 => h9) rfl dX11_load_20 ?_
    refine va_get (D := (dC, dI)) (ci := 8) (v := .int 0) (C := RX8) (T := TX8) (N := 17) hx hb hts i_X11_load_X8 hown hK hP 1 rfl rfl 1 (by decide) (hts _ m_X11_load_2) (fun _ h9 => h9) rfl dX11_load_23 ?_
    refine lv_if_eq (tgt := 36) hx hb dX11_load_26 (by decide) (fun _ => ?_) (fun c9_ => absurd (by decide) c9_)
    refine lv_aload_n hx hb dX11_load_36 rfl (lv_at hl 0 rfl) ?_
    refine va_get (D := (dC, dI)) (ci := 11) (v := .ref (a 24)) (C := RX11) (T := TX11) (N := 11) hx hb hts i_X11_load_X11 hown hK hP 0 rfl rfl 3 (by decide) (hts _ m_X11_load_3) (fun _ h9 => h9) rfl dX11_load_37 ?_
    refine lv_iload_n hx hb dX11_load_40 rfl (lv_at hl 1 rfl) ?_
    refine lv_aload_n hx hb dX11_load_41 rfl (lv_at hl 0 rfl) ?_
    refine va_get (D := (dC, dI)) (ci := 11) (v := .ref (a 1)) (C := RX11) (T := TX11) (N := 11) hx hb hts i_X11_load_X11 hown hK hP 0 rfl rfl 0 (by decide) (hts _ m_X11_load_1) (fun _ h9 => h9) rfl dX11_load_42 ?_
    refine va_get (D := (dC, dI)) (ci := 8) (v := .int 1) (C := RX8) (T := TX8) (N := 17) hx hb hts i_X11_load_X8 hown hK hP 1 rfl rfl 0 (by decide) (hts _ m_X11_load_4) (fun _ h9 => h9) rfl dX11_load_45 ?_
    have hP := hP.sub (ws' := [(a 0, .inr (11, [.ref (a 1), .ref (a 60), .ref (a 21), .ref (a 24), .ref (a 28), .ref (a 30), .ref (a 31), .ref (a 32), .ref (a 55), .int 0, .int (-1)])), (a 24, .inr (9, [.ref (a 21), .ref (a 25), .int 0, .int 0, .int 0, .int (-1), .int 0, .ref (a 26), .ref (a 27), .int 0, .ref (a 63), .ref (a 64), .int 0, .int 0, .int 0])), (a 26, .inl (cy 0, 33, .inl (fun _ => 0))), (a 27, .inl (cy 0, 33, .inl (fun _ => 0))), (a 55, .inl (cy 0, 7, .inl (fun _ => 0)))]) [0, 24, 26, 27, 55] rfl
    have hD := hD.sub (ws' := [(a 0, .inr (11, [.ref (a 1), .ref (a 60), .ref (a 21), .ref (a 24), .ref (a 28), .ref (a 30), .ref (a 31), .ref (a 32), .ref (a 55), .int 0, .int (-1)])), (a 24, .inr (9, [.ref (a 21), .ref (a 25), .int 0, .int 0, .int 0, .int (-1), .int 0, .ref (a 26), .ref (a 27), .int 0, .ref (a 63), .ref (a 64), .int 0, .int 0, .int 0])), (a 26, .inl (cy 0, 33, .inl (fun _ => 0))), (a 27, .inl (cy 0, 33, .inl (fun _ => 0))), (a 55, .inl (cy 0, 7, .inl (fun _ => 0)))]) [0, 24, 26, 27, 55] (by decide) rfl
    have hPc : va_P (dC, dI) vwCl ([(a 24, .inr (9, [.ref (a 21), .ref (a 25), .int 0, .int 0, .int 0, .int (-1), .int 0, .ref (a 26), .ref (a 27), .int 0, .ref (a 63), .ref (a 64), .int 0, .int 0, .int 0])), (a 26, .inl (cy 0, 33, .inl (fun _ => 0))), (a 27, .inl (cy 0, 33, .inl (fun _ => 0)))]) _ := hP.sub [1, 2, 3] rfl
    have hDc := hD.sub (ws' := [(a 24, .inr (9, [.ref (a 21), .ref (a 25), .int 0, .int 0, .int 0, .int (-1), .int 0, .ref (a 26), .ref (a 27), .int 0, .ref (a 63), .ref (a 64), .int 0, .int 0, .int 0])), (a 26, .inl (cy 0, 33, .inl (fun _ => 0))), (a 27, .inl (cy 0, 33, .inl (fun _ => 0)))]) [1, 2, 3] (by decide) rfl
    have hFc := va_free (wc := [(a 24, .inr (9, [.ref (a 21), .ref (a 25), .int 0, .int 0, .int 0, .int (-1), .int 0, .ref (a 26), .ref (a 27), .int 0, .ref (a 63), .ref (a 64), .int 0, .int 0, .int 0])), (a 26, .inl (cy 0, 33, .inl (fun _ => 0))), (a 27, .inl (cy 0, 33, .inl (fun _ => 0)))]) hD hS hA [1, 2, 3] rfl
    refine va_calli (va_runV (As := [.int 0, .int 1]) (rest := []) ⟨hx, hb, hml, hown, hts⟩ (c_X9_read l dC dI cy a g _) (cwV 2 hts g_X11_load_X9_read_98 rfl rfl rfl (by decide +kernel) ⟨Nat.le_of_ble_eq_true rfl, Nat.le_of_ble_eq_true rfl⟩) (pv_ps hC hPc hDc (ci := 9) (q0 := 0) rfl rfl) rfl rfl hl.1 rfl (lv_room (Nat.le_of_ble_eq_true rfl)) dX11_load_48 ⟨Nat.le_of_ble_eq_true rfl, Nat.le_of_ble_eq_true rfl⟩) hS (fun q _ h => hFc q h) hFc (fun r_ u t_ H1 locs ht hvm hw hB hz1 hk1 hS => ?_)
    obtain ⟨u18_, rfl⟩ : ∃ z, z = u := ⟨_, rfl⟩
    obtain ⟨hP1, hD1⟩ := hB
    rw [ht] at hP1
    obtain ⟨hP, hD⟩ := va_join (wr := [(a 0, .inr (11, [.ref (a 1), .ref (a 60), .ref (a 21), .ref (a 24), .ref (a 28), .ref (a 30), .ref (a 31), .ref (a 32), .ref (a 55), .int 0, .int (-1)])), (a 55, .inl (cy 0, 7, .inl (fun _ => 0)))]) (w1 := [(a 24, .inr (9, [.ref (a 21), .ref (a 25), .int 0, .int 0, .int 0, .int 0, .int 1, .ref (a 26), .ref (a 27), .int 0, .ref (a 63), .ref (a 64), .int 0, .int 0, .int 0]))]) hP hD [1, 2, 3] [0, 4] rfl rfl (by decide) (by decide) hk1 hFc hP1 hD1
    generalize H1 = H at hP hS ⊢
    have hP : va_P (dC, dI) vwCl ([(a 0, .inr (11, [.ref (a 1), .ref (a 60), .ref (a 21), .ref (a 24), .ref (a 28), .ref (a 30), .ref (a 31), .ref (a 32), .ref (a 55), .int 0, .int (-1)])), (a 55, .inl (cy 0, 7, .inl (fun _ => 0))), (a 24, .inr (9, [.ref (a 21), .ref (a 25), .int 0, .int 0, .int 0, .int 0, .int 1, .ref (a 26), .ref (a 27), .int 0, .ref (a 63), .ref (a 64), .int 0, .int 0, .int 0]))]) H := hP
    have hD : va_D A ([(a 0, .inr (11, [.ref (a 1), .ref (a 60), .ref (a 21), .ref (a 24), .ref (a 28), .ref (a 30), .ref (a 31), .ref (a 32), .ref (a 55), .int 0, .int (-1)])), (a 55, .inl (cy 0, 7, .inl (fun _ => 0))), (a 24, .inr (9, [.ref (a 21), .ref (a 25), .int 0, .int 0, .int 0, .int 0, .int 1, .ref (a 26), .ref (a 27), .int 0, .ref (a 63), .ref (a 64), .int 0, .int 0, .int 0]))]) := hD
    subst hw
    refine lv_istore_n (lv' := [(2, .int 1), (0, .ref (a 0)), (1, .int 0)]) hx hb dX11_load_51 rfl hl (by decide) rfl (fun ls hl => ?_)
    refine lv_aload_n hx hb dX11_load_52 rfl (lv_at hl 1 rfl) ?_
    refine lv_aload_n hx hb dX11_load_53 rfl (lv_at hl 1 rfl) ?_
    refine va_get (D := (dC, dI)) (ci := 11) (v := .ref (a 24)) (C := RX11) (T := TX11) (N := 11) hx hb hts i_X11_load_X11 hown hK hP 0 rfl rfl 3 (by decide) (hts _ m_X11_load_3) (fun _ h9 => h9) rfl dX11_load_54 ?_
    have hPc : va_P (dC, dI) vwCl ([(a 24, .inr (9, [.ref (a 21), .ref (a 25), .int 0, .int 0, .int 0, .int 0, .int 1, .ref (a 26), .ref (a 27), .int 0, .ref (a 63), .ref (a 64), .int 0, .int 0, .int 0]))]) _ := hP.sub [2] rfl
    refine tk_pi (va_runV (As := []) (rest := [.ref (a 0)]) ⟨hx, hb, hml, hown, hts⟩ (c_X9_faultAt l dC dI cy a g) (cwV 0 hts g_X11_load_X9_faultAt_102 rfl rfl rfl (by decide +kernel) ⟨Nat.le_of_ble_eq_true rfl, Nat.le_of_ble_eq_true rfl⟩) (pv_pp hC hPc (ci := 9) (q0 := 0) rfl rfl) rfl rfl hl.1 rfl (lv_room (Nat.le_of_ble_eq_true rfl)) dX11_load_57 ⟨Nat.le_of_ble_eq_true rfl, Nat.le_of_ble_eq_true rfl⟩) hP hS (fun r_ H locs hw hP hS => ?_)
    subst hw
    refine va_put (D := (dC, dI)) (ci := 11) (v := .int 0) (ty := .int) (C := RX11) (T := TX11) (N := 11) hx hb hts i_X11_load_X11 tyX11 tyX11_ok nmX11 hown hK hP hD hS 0 rfl rfl 10 (by decide) (hts _ m_X11_load_5) (fun _ h9 => h9) rfl (by decide +kernel) rfl rfl (Nat.le_of_ble_eq_true rfl) dX11_load_60 (fun H locs hP hD hS => ?_)
    refine lv_aload_n hx hb dX11_load_63 rfl (lv_at hl 1 rfl) ?_
    refine va_get (D := (dC, dI)) (ci := 11) (v := .ref (a 24)) (C := RX11) (T := TX11) (N := 11) hx hb hts i_X11_load_X11 hown hK hP 0 rfl rfl 3 (by decide) (hts _ m_X11_load_3) (fun _ h9 => h9) rfl dX11_load_64 ?_
    refine lv_iconst (v := 0) hx hb dX11_load_67 (by decide) ?_
    have hPc : va_P (dC, dI) vwCl ([(a 24, .inr (9, [.ref (a 21), .ref (a 25), .int 0, .int 0, .int 0, .int 0, .int 1, .ref (a 26), .ref (a 27), .int 0, .ref (a 63), .ref (a 64), .int 0, .int 0, .int 0]))]) _ := hP.sub [2] rfl
    have hDc := hD.sub (ws' := [(a 24, .inr (9, [.ref (a 21), .ref (a 25), .int 0, .int 0, .int 0, .int 0, .int 1, .ref (a 26), .ref (a 27), .int 0, .ref (a 63), .ref (a 64), .int 0, .int 0, .int 0]))]) [2] (by decide) rfl
    have hFc := va_free (wc := [(a 24, .inr (9, [.ref (a 21), .ref (a 25), .int 0, .int 0, .int 0, .int 0, .int 1, .ref (a 26), .ref (a 27), .int 0, .ref (a 63), .ref (a 64), .int 0, .int 0, .int 0]))]) hD hS hA [2] rfl
    refine va_calli (va_runV (As := [.int 0]) (rest := []) ⟨hx, hb, hml, hown, hts⟩ (c_X9_cut_r l dC dI cy a g _) (cwV 1 hts g_X11_load_X9_cut_81 rfl rfl rfl (by decide +kernel) ⟨Nat.le_of_ble_eq_true rfl, Nat.le_of_ble_eq_true rfl⟩) (pv_ps hC hPc hDc (ci := 9) (q0 := 0) rfl rfl) rfl rfl hl.1 rfl (lv_room (Nat.le_of_ble_eq_true rfl)) dX11_load_68 ⟨Nat.le_of_ble_eq_true rfl, Nat.le_of_ble_eq_true rfl⟩) hS (fun q _ h => hFc q h) hFc (fun r_ u t_ H1 locs ht hvm hw hB hz1 hk1 hS => ?_)
    obtain ⟨hP, hD⟩ := va_join (wr := [(a 0, .inr (11, [.ref (a 1), .ref (a 60), .ref (a 21), .ref (a 24), .ref (a 28), .ref (a 30), .ref (a 31), .ref (a 32), .ref (a 55), .int 0, .int 0])), (a 55, .inl (cy 0, 7, .inl (fun _ => 0)))]) (w1 := []) hP hD [2] [0, 1] rfl rfl (by decide) (by decide) hk1 hFc va_P0 va_D0
    generalize H1 = H at hP hS ⊢
    have hP : va_P (dC, dI) vwCl ([(a 0, .inr (11, [.ref (a 1), .ref (a 60), .ref (a 21), .ref (a 24), .ref (a 28), .ref (a 30), .ref (a 31), .ref (a 32), .ref (a 55), .int 0, .int 0])), (a 55, .inl (cy 0, 7, .inl (fun _ => 0)))]) H := hP
    have hD : va_D A ([(a 0, .inr (11, [.ref (a 1), .ref (a 60), .ref (a 21), .ref (a 24), .ref (a 28), .ref (a 30), .ref (a 31), .ref (a 32), .ref (a 55), .int 0, .int 0])), (a 55, .inl (cy 0, 7, .inl (fun _ => 0)))]) := hD
    subst hw
    refine lv_pop hx hb dX11_load_71 rfl ?_
    refine lv_aload_n hx hb dX11_load_72 rfl (lv_at hl 1 rfl) ?_
    refine va_get (D := (dC, dI)) (ci := 11) (v := .int 0) (C := RX11) (T := TX11) (N := 11) hx hb hts i_X11_load_X11 hown hK hP 0 rfl rfl 10 (by decide) (hts _ m_X11_load_5) (fun _ h9 => h9) rfl dX11_load_73 ?_
    refine lv_iconst (v := (-1)) hx hb dX11_load_76 (by decide) ?_
    refine lv_icmp_eq (tgt := 87) hx hb dX11_load_77 (by decide) (fun c9_ => absurd c9_ (by decide)) (fun _ => ?_)
    refine lv_aload_n hx hb dX11_load_80 rfl (lv_at hl 1 rfl) ?_
    refine lv_bipush (v := (-6)) hx hb dX11_load_81 (by decide) ?_
    have hPc : va_P (dC, dI) vwCl ([(a 0, .inr (11, [.ref (a 1), .ref (a 60), .ref (a 21), .ref (a 24), .ref (a 28), .ref (a 30), .ref (a 31), .ref (a 32), .ref (a 55), .int 0, .int 0])), (a 55, .inl (cy 0, 7, .inl (fun _ => 0)))]) _ := hP.sub [0, 1] rfl
    have hDc := hD.sub (ws' := [(a 0, .inr (11, [.ref (a 1), .ref (a 60), .ref (a 21), .ref (a 24), .ref (a 28), .ref (a 30), .ref (a 31), .ref (a 32), .ref (a 55), .int 0, .int 0])), (a 55, .inl (cy 0, 7, .inl (fun _ => 0)))]) [0, 1] (by decide) rfl
    have hFc := va_free (wc := [(a 0, .inr (11, [.ref (a 1), .ref (a 60), .ref (a 21), .ref (a 24), .ref (a 28), .ref (a 30), .ref (a 31), .ref (a 32), .ref (a 55), .int 0, .int 0])), (a 55, .inl (cy 0, 7, .inl (fun _ => 0)))]) hD hS hA [0, 1] rfl
    refine va_calli (va_runV (As := [.int (-6)]) (rest := []) ⟨hx, hb, hml, hown, hts⟩ (c_X11_refuse l dC dI cy a g _ (-6) 0) (cwV 1 hts g_X11_load_X11_refuse_89 rfl rfl rfl (by decide +kernel) ⟨Nat.le_of_ble_eq_true rfl, Nat.le_of_ble_eq_true rfl⟩) (pv_ps hC hPc hDc (ci := 11) (q0 := 0) rfl rfl) rfl rfl hl.1 rfl (lv_room (Nat.le_of_ble_eq_true rfl)) dX11_load_83 ⟨Nat.le_of_ble_eq_true rfl, Nat.le_of_ble_eq_true rfl⟩) hS (fun q _ h => hFc q h) hFc (fun r_ u t_ H1 locs ht hvm hw hB hz1 hk1 hS => ?_)
    obtain ⟨hP, hD⟩ := va_join (wr := []) (w1 := []) hP hD [0, 1] [] rfl rfl (by decide) (by decide) hk1 hFc va_P0 va_D0
    generalize H1 = H at hP hS ⊢
    have hP : va_P (dC, dI) vwCl ([]) H := hP
    have hD : va_D A ([]) := hD
    rcases hw with ⟨c19_, rfl⟩ | ⟨-, c21_, rfl⟩ | ⟨-, -, rfl⟩
    · skip
      exact absurd c19_ (by decide)
    · skip
      exact absurd c21_ (by decide)
    · skip
      exact W.iret (v := (-6)) hx hb hr (fun t ht hW => ⟨⟨(-6), (), rfl, Or.inr (Or.inr (⟨rfl, rfl⟩)), trivial⟩, hS.F ht⟩) hS.2.2 dX11_load_86

theorem dX6_take_0 : decode cX6_take 0 = .ok (.aload_n 1, 1) := by decide +kernel
theorem dX6_take_1 : decode cX6_take 1 = .ok (.getfield 9, 3) := by decide +kernel
theorem dX6_take_4 : decode cX6_take 4 = .ok (.iconst 0, 1) := by decide +kernel
theorem dX6_take_5 : decode cX6_take 5 = .ok (.aload_n 0, 1) := by decide +kernel
theorem dX6_take_6 : decode cX6_take 6 = .ok (.getfield 9, 3) := by decide +kernel
theorem dX6_take_9 : decode cX6_take 9 = .ok (.iconst 0, 1) := by decide +kernel
theorem dX6_take_10 : decode cX6_take 10 = .ok (.aload_n 0, 1) := by decide +kernel
theorem dX6_take_11 : decode cX6_take 11 = .ok (.getfield 9, 3) := by decide +kernel
theorem dX6_take_14 : decode cX6_take 14 = .ok (.arraylength, 1) := by decide +kernel
theorem dX6_take_15 : decode cX6_take 15 = .ok (.invokestatic 55, 3) := by decide +kernel
theorem dX6_take_18 : decode cX6_take 18 = .ok (.aload_n 0, 1) := by decide +kernel
theorem dX6_take_19 : decode cX6_take 19 = .ok (.aload_n 1, 1) := by decide +kernel
theorem dX6_take_20 : decode cX6_take 20 = .ok (.getfield 61, 3) := by decide +kernel
theorem dX6_take_23 : decode cX6_take 23 = .ok (.putfield 61, 3) := by decide +kernel
theorem dX6_take_26 : decode cX6_take 26 = .ok (.aload_n 0, 1) := by decide +kernel
theorem dX6_take_27 : decode cX6_take 27 = .ok (.aload_n 1, 1) := by decide +kernel
theorem dX6_take_28 : decode cX6_take 28 = .ok (.getfield 31, 3) := by decide +kernel
theorem dX6_take_31 : decode cX6_take 31 = .ok (.putfield 31, 3) := by decide +kernel
theorem dX6_take_34 : decode cX6_take 34 = .ok (.aload_n 0, 1) := by decide +kernel
theorem dX6_take_35 : decode cX6_take 35 = .ok (.aload_n 1, 1) := by decide +kernel
theorem dX6_take_36 : decode cX6_take 36 = .ok (.getfield 52, 3) := by decide +kernel
theorem dX6_take_39 : decode cX6_take 39 = .ok (.putfield 52, 3) := by decide +kernel
theorem dX6_take_42 : decode cX6_take 42 = .ok (.return_, 1) := by decide +kernel
def v_X6_take : List Cond := .code yX6_take cX6_take 2 none :: ([.fieldLink RX6 9 "RestBoard$Registers" "bytes" "[I", .methodLink RX6 55 arraycopyName, .native arraycopyName, .static arraycopyName, .initialized "java/lang/System", .fieldLink RX6 61 "RestBoard$Registers" "select" "I", .fieldLink RX6 31 "RestBoard$Registers" "reads" "I", .fieldLink RX6 52 "RestBoard$Registers" "writes" "I"] ++ wsX60)
theorem m_X6_take_0 : (.fieldLink RX6 9 "RestBoard$Registers" "bytes" "[I" : Cond) ∈ v_X6_take := List.mem_of_getElem? (i := 1) (by decide +kernel)
theorem m_X6_take_1 : (.methodLink RX6 55 arraycopyName : Cond) ∈ v_X6_take := List.mem_of_getElem? (i := 2) (by decide +kernel)
theorem m_X6_take_2 : (.native arraycopyName : Cond) ∈ v_X6_take := List.mem_of_getElem? (i := 3) (by decide +kernel)
theorem m_X6_take_3 : (.static arraycopyName : Cond) ∈ v_X6_take := List.mem_of_getElem? (i := 4) (by decide +kernel)
theorem m_X6_take_4 : (.initialized "java/lang/System" : Cond) ∈ v_X6_take := List.mem_of_getElem? (i := 5) (by decide +kernel)
theorem m_X6_take_5 : (.fieldLink RX6 61 "RestBoard$Registers" "select" "I" : Cond) ∈ v_X6_take := List.mem_of_getElem? (i := 6) (by decide +kernel)
theorem m_X6_take_6 : (.fieldLink RX6 31 "RestBoard$Registers" "reads" "I" : Cond) ∈ v_X6_take := List.mem_of_getElem? (i := 7) (by decide +kernel)
theorem m_X6_take_7 : (.fieldLink RX6 52 "RestBoard$Registers" "writes" "I" : Cond) ∈ v_X6_take := List.mem_of_getElem? (i := 8) (by decide +kernel)
theorem i_X6_take_X6 : ∀ w ∈ u_ws RX6 TX6 4, w ∈ v_X6_take := fun w h => List.mem_cons_of_mem _ (List.mem_append_right _ h)
set_option maxHeartbeats 4000000 in
set_option maxRecDepth 100000 in
theorem c_X6_take (l : Launch) (dC : Nat → ClassId) (dI : Nat → Nat → Nat) (cy : Nat → ClassId) (a : Nat → Nat) (g : Nat → Nat → Option Nat) (sz : Nat) : Met l yX6_take v_X6_take ({ frames := 1, cells := 0, slots := 0, locals := 40 }) (va_Pc [.ref (a 47), .ref (a 13)] (ps dC dI cy ([(a 47, .inr (6, [.ref (a 48), .int 0, .int 0, .int 0])), (a 48, .inl (cy 0, 40, .inl (fun _ => 0))), (a 13, .inr (6, [.ref (a 14), .int 0, .int 0, .int 0])), (a 14, .inl (cy 0, 40, .inl (fun _ => 0)))]) sz)) (va_Qv (fun (_ : uS) => True) (fun (_ : uS) (t : State) => va_P (dC, dI) vwCl ([(a 13, .inr (6, [.ref (a 14), .int 0, .int 0, .int 0])), (a 14, .inl (cy 0, 40, .inl (fun _ => 0)))]) t.heap ∧ va_D (va_A ([(a 47, .inr (6, [.ref (a 48), .int 0, .int 0, .int 0])), (a 48, .inl (cy 0, 40, .inl (fun _ => 0))), (a 13, .inr (6, [.ref (a 14), .int 0, .int 0, .int 0])), (a 14, .inl (cy 0, 40, .inl (fun _ => 0)))]) sz) ([(a 13, .inr (6, [.ref (a 14), .int 0, .int 0, .int 0])), (a 14, .inl (cy 0, 40, .inl (fun _ => 0)))])) (va_A ([(a 47, .inr (6, [.ref (a 48), .int 0, .int 0, .int 0])), (a 48, .inl (cy 0, 40, .inl (fun _ => 0))), (a 13, .inr (6, [.ref (a 14), .int 0, .int 0, .int 0])), (a 14, .inl (cy 0, 40, .inl (fun _ => 0)))]) sz)) 0 0 (va_A ([(a 47, .inr (6, [.ref (a 48), .int 0, .int 0, .int 0])), (a 48, .inl (cy 0, 40, .inl (fun _ => 0))), (a 13, .inr (6, [.ref (a 14), .int 0, .int 0, .int 0])), (a 14, .inl (cy 0, 40, .inl (fun _ => 0)))]) sz) := by
  refine Met.ofW (cc := cX6_take) (maxL := 2) (ret := none) (by decide) rfl ?_
  intro p e s m args below meth c s₁ B hml hv
  obtain ⟨rfl, hsz, hP, hC, hD0⟩ := hv
  have hK := hC.1
  have hx := B.exec
  have hb := B.bytes
  have hr := B.returns
  have hts := atoms_spec (ws := v_X6_take) B.pre
  have hown : s.vm.findClass RX6 = some m.cls := findClass_of_methodNamed B.named
  have hlocks := B.notSynchronized
  subst hsz
  have hD := hD0.self (sz := s.heap.size)
  generalize hAe : va_A ([(a 47, .inr (6, [.ref (a 48), .int 0, .int 0, .int 0])), (a 48, .inl (cy 0, 40, .inl (fun _ => 0))), (a 13, .inr (6, [.ref (a 14), .int 0, .int 0, .int 0])), (a 14, .inl (cy 0, 40, .inl (fun _ => 0)))]) s.heap.size = A at hD ⊢
  have hA : ∀ q : Nat, s.heap.size ≤ q → A q := fun q h => by rw [← hAe]; exact Or.inr h
  have hS : va_S A s.heap s.heap [] := va_S.rf
  have hl := lv_entry ([.ref (a 47), .ref (a 13)]) (n := 2) (Nat.le_of_ble_eq_true rfl)
  rw [lg_entry_eq]
  generalize (lg_sl ([.ref (a 47), .ref (a 13)]) ++ List.replicate (2 - (lg_sl ([.ref (a 47), .ref (a 13)])).length) Slot.unset).toArray = ls at hl ⊢
  have hl : lv_has ls 2 [(0, .ref (a 47)), (1, .ref (a 13))] := hl
  refine lv_aload_n hx hb dX6_take_0 rfl (lv_at hl 1 rfl) ?_
  refine va_get (D := (dC, dI)) (ci := 6) (v := .ref (a 14)) (C := RX6) (T := TX6) (N := 4) hx hb hts i_X6_take_X6 hown hK hP 2 rfl rfl 0 (by decide) (hts _ m_X6_take_0) (fun _ h9 => h9) rfl dX6_take_1 ?_
  refine lv_iconst (v := 0) hx hb dX6_take_4 (by decide) ?_
  refine lv_aload_n hx hb dX6_take_5 rfl (lv_at hl 0 rfl) ?_
  refine va_get (D := (dC, dI)) (ci := 6) (v := .ref (a 48)) (C := RX6) (T := TX6) (N := 4) hx hb hts i_X6_take_X6 hown hK hP 0 rfl rfl 0 (by decide) (hts _ m_X6_take_0) (fun _ h9 => h9) rfl dX6_take_6 ?_
  refine lv_iconst (v := 0) hx hb dX6_take_9 (by decide) ?_
  refine lv_aload_n hx hb dX6_take_10 rfl (lv_at hl 0 rfl) ?_
  refine va_get (D := (dC, dI)) (ci := 6) (v := .ref (a 48)) (C := RX6) (T := TX6) (N := 4) hx hb hts i_X6_take_X6 hown hK hP 0 rfl rfl 0 (by decide) (hts _ m_X6_take_0) (fun _ h9 => h9) rfl dX6_take_11 ?_
  refine va_alen hx hb hK hP 1 0 rfl rfl (v := 40) (by decide) dX6_take_14 ?_
  refine va_copyi hx hb (hml.trans hl.1.symm) hown (hts _ m_X6_take_1) (hts _ m_X6_take_2) (hts _ m_X6_take_3) (hts _ m_X6_take_4) hK hP hD hS 3 1 0 0 rfl rfl rfl rfl rfl (by decide) (by decide) (by decide) (by decide) (by decide) (fun _ _ => rfl) (Nat.le_of_ble_eq_true rfl) (Nat.le_of_ble_eq_true rfl) dX6_take_15 (fun H locs hP hD hS => ?_)
  refine lv_aload_n hx hb dX6_take_18 rfl (lv_at hl 0 rfl) ?_
  refine lv_aload_n hx hb dX6_take_19 rfl (lv_at hl 1 rfl) ?_
  refine va_get (D := (dC, dI)) (ci := 6) (v := .int 0) (C := RX6) (T := TX6) (N := 4) hx hb hts i_X6_take_X6 hown hK hP 2 rfl rfl 1 (by decide) (hts _ m_X6_take_5) (fun _ h9 => h9) rfl dX6_take_20 ?_
  refine va_put (D := (dC, dI)) (ci := 6) (v := .int 0) (ty := .int) (C := RX6) (T := TX6) (N := 4) hx hb hts i_X6_take_X6 tyX6 tyX6_ok nmX6 hown hK hP hD hS 0 rfl rfl 1 (by decide) (hts _ m_X6_take_5) (fun _ h9 => h9) rfl (by decide +kernel) rfl rfl (Nat.le_of_ble_eq_true rfl) dX6_take_23 (fun H locs hP hD hS => ?_)
  refine lv_aload_n hx hb dX6_take_26 rfl (lv_at hl 0 rfl) ?_
  refine lv_aload_n hx hb dX6_take_27 rfl (lv_at hl 1 rfl) ?_
  refine va_get (D := (dC, dI)) (ci := 6) (v := .int 0) (C := RX6) (T := TX6) (N := 4) hx hb hts i_X6_take_X6 hown hK hP 2 rfl rfl 2 (by decide) (hts _ m_X6_take_6) (fun _ h9 => h9) rfl dX6_take_28 ?_
  refine va_put (D := (dC, dI)) (ci := 6) (v := .int 0) (ty := .int) (C := RX6) (T := TX6) (N := 4) hx hb hts i_X6_take_X6 tyX6 tyX6_ok nmX6 hown hK hP hD hS 0 rfl rfl 2 (by decide) (hts _ m_X6_take_6) (fun _ h9 => h9) rfl (by decide +kernel) rfl rfl (Nat.le_of_ble_eq_true rfl) dX6_take_31 (fun H locs hP hD hS => ?_)
  refine lv_aload_n hx hb dX6_take_34 rfl (lv_at hl 0 rfl) ?_
  refine lv_aload_n hx hb dX6_take_35 rfl (lv_at hl 1 rfl) ?_
  refine va_get (D := (dC, dI)) (ci := 6) (v := .int 0) (C := RX6) (T := TX6) (N := 4) hx hb hts i_X6_take_X6 hown hK hP 2 rfl rfl 3 (by decide) (hts _ m_X6_take_7) (fun _ h9 => h9) rfl dX6_take_36 ?_
  refine va_put (D := (dC, dI)) (ci := 6) (v := .int 0) (ty := .int) (C := RX6) (T := TX6) (N := 4) hx hb hts i_X6_take_X6 tyX6 tyX6_ok nmX6 hown hK hP hD hS 0 rfl rfl 3 (by decide) (hts _ m_X6_take_7) (fun _ h9 => h9) rfl (by decide +kernel) rfl rfl (Nat.le_of_ble_eq_true rfl) dX6_take_39 (fun H locs hP hD hS => ?_)
  have hP9 := hP.sub (ws' := [(a 13, .inr (6, [.ref (a 14), .int 0, .int 0, .int 0])), (a 14, .inl (cy 0, 40, .inl (fun _ => 0)))]) [2, 3] rfl
  have hD9 := hD.sub (ws' := [(a 13, .inr (6, [.ref (a 14), .int 0, .int 0, .int 0])), (a 14, .inl (cy 0, 40, .inl (fun _ => 0)))]) [2, 3] (by decide) rfl
  exact W.vret hx hb hr (fun t ht hW => ⟨⟨((fun k => [].getD k 0, fun k => [].getD k (fun _ => 0), fun k => [].getD k (fun _ => none)) : uS), rfl, trivial, (by rw [ht]; exact hP9), hD9⟩, hS.F ht⟩) hS.2.2 dX6_take_42

theorem dX2_take_0 : decode cX2_take 0 = .ok (.aload_n 1, 1) := by decide +kernel
theorem dX2_take_1 : decode cX2_take 1 = .ok (.getfield 9, 3) := by decide +kernel
theorem dX2_take_4 : decode cX2_take 4 = .ok (.iconst 0, 1) := by decide +kernel
theorem dX2_take_5 : decode cX2_take 5 = .ok (.aload_n 0, 1) := by decide +kernel
theorem dX2_take_6 : decode cX2_take 6 = .ok (.getfield 9, 3) := by decide +kernel
theorem dX2_take_9 : decode cX2_take 9 = .ok (.iconst 0, 1) := by decide +kernel
theorem dX2_take_10 : decode cX2_take 10 = .ok (.aload_n 0, 1) := by decide +kernel
theorem dX2_take_11 : decode cX2_take 11 = .ok (.getfield 9, 3) := by decide +kernel
theorem dX2_take_14 : decode cX2_take 14 = .ok (.arraylength, 1) := by decide +kernel
theorem dX2_take_15 : decode cX2_take 15 = .ok (.invokestatic 25, 3) := by decide +kernel
theorem dX2_take_18 : decode cX2_take 18 = .ok (.aload_n 1, 1) := by decide +kernel
theorem dX2_take_19 : decode cX2_take 19 = .ok (.getfield 15, 3) := by decide +kernel
theorem dX2_take_22 : decode cX2_take 22 = .ok (.iconst 0, 1) := by decide +kernel
theorem dX2_take_23 : decode cX2_take 23 = .ok (.aload_n 0, 1) := by decide +kernel
theorem dX2_take_24 : decode cX2_take 24 = .ok (.getfield 15, 3) := by decide +kernel
theorem dX2_take_27 : decode cX2_take 27 = .ok (.iconst 0, 1) := by decide +kernel
theorem dX2_take_28 : decode cX2_take 28 = .ok (.aload_n 0, 1) := by decide +kernel
theorem dX2_take_29 : decode cX2_take 29 = .ok (.getfield 15, 3) := by decide +kernel
theorem dX2_take_32 : decode cX2_take 32 = .ok (.arraylength, 1) := by decide +kernel
theorem dX2_take_33 : decode cX2_take 33 = .ok (.invokestatic 25, 3) := by decide +kernel
theorem dX2_take_36 : decode cX2_take 36 = .ok (.aload_n 0, 1) := by decide +kernel
theorem dX2_take_37 : decode cX2_take 37 = .ok (.aload_n 1, 1) := by decide +kernel
theorem dX2_take_38 : decode cX2_take 38 = .ok (.getfield 22, 3) := by decide +kernel
theorem dX2_take_41 : decode cX2_take 41 = .ok (.putfield 22, 3) := by decide +kernel
theorem dX2_take_44 : decode cX2_take 44 = .ok (.aload_n 0, 1) := by decide +kernel
theorem dX2_take_45 : decode cX2_take 45 = .ok (.aload_n 1, 1) := by decide +kernel
theorem dX2_take_46 : decode cX2_take 46 = .ok (.getfield 18, 3) := by decide +kernel
theorem dX2_take_49 : decode cX2_take 49 = .ok (.putfield 18, 3) := by decide +kernel
theorem dX2_take_52 : decode cX2_take 52 = .ok (.return_, 1) := by decide +kernel
def v_X2_take : List Cond := .code yX2_take cX2_take 2 none :: ([.fieldLink RX2 9 "RestBoard$Log" "who" "[I", .methodLink RX2 25 arraycopyName, .native arraycopyName, .static arraycopyName, .initialized "java/lang/System", .fieldLink RX2 15 "RestBoard$Log" "what" "[I", .fieldLink RX2 22 "RestBoard$Log" "kept" "I", .fieldLink RX2 18 "RestBoard$Log" "next" "I"] ++ wsX20)
theorem m_X2_take_0 : (.fieldLink RX2 9 "RestBoard$Log" "who" "[I" : Cond) ∈ v_X2_take := List.mem_of_getElem? (i := 1) (by decide +kernel)
theorem m_X2_take_1 : (.methodLink RX2 25 arraycopyName : Cond) ∈ v_X2_take := List.mem_of_getElem? (i := 2) (by decide +kernel)
theorem m_X2_take_2 : (.native arraycopyName : Cond) ∈ v_X2_take := List.mem_of_getElem? (i := 3) (by decide +kernel)
theorem m_X2_take_3 : (.static arraycopyName : Cond) ∈ v_X2_take := List.mem_of_getElem? (i := 4) (by decide +kernel)
theorem m_X2_take_4 : (.initialized "java/lang/System" : Cond) ∈ v_X2_take := List.mem_of_getElem? (i := 5) (by decide +kernel)
theorem m_X2_take_5 : (.fieldLink RX2 15 "RestBoard$Log" "what" "[I" : Cond) ∈ v_X2_take := List.mem_of_getElem? (i := 6) (by decide +kernel)
theorem m_X2_take_6 : (.fieldLink RX2 22 "RestBoard$Log" "kept" "I" : Cond) ∈ v_X2_take := List.mem_of_getElem? (i := 7) (by decide +kernel)
theorem m_X2_take_7 : (.fieldLink RX2 18 "RestBoard$Log" "next" "I" : Cond) ∈ v_X2_take := List.mem_of_getElem? (i := 8) (by decide +kernel)
theorem i_X2_take_X2 : ∀ w ∈ u_ws RX2 TX2 4, w ∈ v_X2_take := fun w h => List.mem_cons_of_mem _ (List.mem_append_right _ h)
set_option maxHeartbeats 4000000 in
set_option maxRecDepth 100000 in
theorem c_X2_take_n (l : Launch) (dC : Nat → ClassId) (dI : Nat → Nat → Nat) (cy : Nat → ClassId) (a : Nat → Nat) (g : Nat → Nat → Option Nat) (sz : Nat) : Met l yX2_take v_X2_take ({ frames := 1, cells := 0, slots := 0, locals := 40 }) (va_Pc [.ref (a 49), .ref (a 15)] (ps dC dI cy ([(a 49, .inr (2, [.ref (a 50), .ref (a 51), .int 0, .int 0])), (a 50, .inl (cy 0, 16, .inl (fun _ => 0))), (a 51, .inl (cy 0, 16, .inl (fun _ => 0))), (a 15, .inr (2, [.ref (a 16), .ref (a 17), .int 0, .int 0])), (a 16, .inl (cy 0, 16, .inl (fun _ => 0))), (a 17, .inl (cy 0, 16, .inl (fun _ => 0)))]) sz)) (va_Qv (fun (_ : uS) => True) (fun (_ : uS) (t : State) => va_P (dC, dI) vwCl ([(a 15, .inr (2, [.ref (a 16), .ref (a 17), .int 0, .int 0])), (a 16, .inl (cy 0, 16, .inl (fun _ => 0))), (a 17, .inl (cy 0, 16, .inl (fun _ => 0)))]) t.heap ∧ va_D (va_A ([(a 49, .inr (2, [.ref (a 50), .ref (a 51), .int 0, .int 0])), (a 50, .inl (cy 0, 16, .inl (fun _ => 0))), (a 51, .inl (cy 0, 16, .inl (fun _ => 0))), (a 15, .inr (2, [.ref (a 16), .ref (a 17), .int 0, .int 0])), (a 16, .inl (cy 0, 16, .inl (fun _ => 0))), (a 17, .inl (cy 0, 16, .inl (fun _ => 0)))]) sz) ([(a 15, .inr (2, [.ref (a 16), .ref (a 17), .int 0, .int 0])), (a 16, .inl (cy 0, 16, .inl (fun _ => 0))), (a 17, .inl (cy 0, 16, .inl (fun _ => 0)))])) (va_A ([(a 49, .inr (2, [.ref (a 50), .ref (a 51), .int 0, .int 0])), (a 50, .inl (cy 0, 16, .inl (fun _ => 0))), (a 51, .inl (cy 0, 16, .inl (fun _ => 0))), (a 15, .inr (2, [.ref (a 16), .ref (a 17), .int 0, .int 0])), (a 16, .inl (cy 0, 16, .inl (fun _ => 0))), (a 17, .inl (cy 0, 16, .inl (fun _ => 0)))]) sz)) 0 0 (va_A ([(a 49, .inr (2, [.ref (a 50), .ref (a 51), .int 0, .int 0])), (a 50, .inl (cy 0, 16, .inl (fun _ => 0))), (a 51, .inl (cy 0, 16, .inl (fun _ => 0))), (a 15, .inr (2, [.ref (a 16), .ref (a 17), .int 0, .int 0])), (a 16, .inl (cy 0, 16, .inl (fun _ => 0))), (a 17, .inl (cy 0, 16, .inl (fun _ => 0)))]) sz) := by
  refine Met.ofW (cc := cX2_take) (maxL := 2) (ret := none) (by decide) rfl ?_
  intro p e s m args below meth c s₁ B hml hv
  obtain ⟨rfl, hsz, hP, hC, hD0⟩ := hv
  have hK := hC.1
  have hx := B.exec
  have hb := B.bytes
  have hr := B.returns
  have hts := atoms_spec (ws := v_X2_take) B.pre
  have hown : s.vm.findClass RX2 = some m.cls := findClass_of_methodNamed B.named
  have hlocks := B.notSynchronized
  subst hsz
  have hD := hD0.self (sz := s.heap.size)
  generalize hAe : va_A ([(a 49, .inr (2, [.ref (a 50), .ref (a 51), .int 0, .int 0])), (a 50, .inl (cy 0, 16, .inl (fun _ => 0))), (a 51, .inl (cy 0, 16, .inl (fun _ => 0))), (a 15, .inr (2, [.ref (a 16), .ref (a 17), .int 0, .int 0])), (a 16, .inl (cy 0, 16, .inl (fun _ => 0))), (a 17, .inl (cy 0, 16, .inl (fun _ => 0)))]) s.heap.size = A at hD ⊢
  have hA : ∀ q : Nat, s.heap.size ≤ q → A q := fun q h => by rw [← hAe]; exact Or.inr h
  have hS : va_S A s.heap s.heap [] := va_S.rf
  have hl := lv_entry ([.ref (a 49), .ref (a 15)]) (n := 2) (Nat.le_of_ble_eq_true rfl)
  rw [lg_entry_eq]
  generalize (lg_sl ([.ref (a 49), .ref (a 15)]) ++ List.replicate (2 - (lg_sl ([.ref (a 49), .ref (a 15)])).length) Slot.unset).toArray = ls at hl ⊢
  have hl : lv_has ls 2 [(0, .ref (a 49)), (1, .ref (a 15))] := hl
  refine lv_aload_n hx hb dX2_take_0 rfl (lv_at hl 1 rfl) ?_
  refine va_get (D := (dC, dI)) (ci := 2) (v := .ref (a 16)) (C := RX2) (T := TX2) (N := 4) hx hb hts i_X2_take_X2 hown hK hP 3 rfl rfl 0 (by decide) (hts _ m_X2_take_0) (fun _ h9 => h9) rfl dX2_take_1 ?_
  refine lv_iconst (v := 0) hx hb dX2_take_4 (by decide) ?_
  refine lv_aload_n hx hb dX2_take_5 rfl (lv_at hl 0 rfl) ?_
  refine va_get (D := (dC, dI)) (ci := 2) (v := .ref (a 50)) (C := RX2) (T := TX2) (N := 4) hx hb hts i_X2_take_X2 hown hK hP 0 rfl rfl 0 (by decide) (hts _ m_X2_take_0) (fun _ h9 => h9) rfl dX2_take_6 ?_
  refine lv_iconst (v := 0) hx hb dX2_take_9 (by decide) ?_
  refine lv_aload_n hx hb dX2_take_10 rfl (lv_at hl 0 rfl) ?_
  refine va_get (D := (dC, dI)) (ci := 2) (v := .ref (a 50)) (C := RX2) (T := TX2) (N := 4) hx hb hts i_X2_take_X2 hown hK hP 0 rfl rfl 0 (by decide) (hts _ m_X2_take_0) (fun _ h9 => h9) rfl dX2_take_11 ?_
  refine va_alen hx hb hK hP 1 0 rfl rfl (v := 16) (by decide) dX2_take_14 ?_
  refine va_copyi hx hb (hml.trans hl.1.symm) hown (hts _ m_X2_take_1) (hts _ m_X2_take_2) (hts _ m_X2_take_3) (hts _ m_X2_take_4) hK hP hD hS 4 1 0 0 rfl rfl rfl rfl rfl (by decide) (by decide) (by decide) (by decide) (by decide) (fun _ _ => rfl) (Nat.le_of_ble_eq_true rfl) (Nat.le_of_ble_eq_true rfl) dX2_take_15 (fun H locs hP hD hS => ?_)
  refine lv_aload_n hx hb dX2_take_18 rfl (lv_at hl 1 rfl) ?_
  refine va_get (D := (dC, dI)) (ci := 2) (v := .ref (a 17)) (C := RX2) (T := TX2) (N := 4) hx hb hts i_X2_take_X2 hown hK hP 3 rfl rfl 1 (by decide) (hts _ m_X2_take_5) (fun _ h9 => h9) rfl dX2_take_19 ?_
  refine lv_iconst (v := 0) hx hb dX2_take_22 (by decide) ?_
  refine lv_aload_n hx hb dX2_take_23 rfl (lv_at hl 0 rfl) ?_
  refine va_get (D := (dC, dI)) (ci := 2) (v := .ref (a 51)) (C := RX2) (T := TX2) (N := 4) hx hb hts i_X2_take_X2 hown hK hP 0 rfl rfl 1 (by decide) (hts _ m_X2_take_5) (fun _ h9 => h9) rfl dX2_take_24 ?_
  refine lv_iconst (v := 0) hx hb dX2_take_27 (by decide) ?_
  refine lv_aload_n hx hb dX2_take_28 rfl (lv_at hl 0 rfl) ?_
  refine va_get (D := (dC, dI)) (ci := 2) (v := .ref (a 51)) (C := RX2) (T := TX2) (N := 4) hx hb hts i_X2_take_X2 hown hK hP 0 rfl rfl 1 (by decide) (hts _ m_X2_take_5) (fun _ h9 => h9) rfl dX2_take_29 ?_
  refine va_alen hx hb hK hP 2 0 rfl rfl (v := 16) (by decide) dX2_take_32 ?_
  refine va_copyi hx hb (hml.trans hl.1.symm) hown (hts _ m_X2_take_1) (hts _ m_X2_take_2) (hts _ m_X2_take_3) (hts _ m_X2_take_4) hK hP hD hS 5 2 0 0 rfl rfl rfl rfl rfl (by decide) (by decide) (by decide) (by decide) (by decide) (fun _ _ => rfl) (Nat.le_of_ble_eq_true rfl) (Nat.le_of_ble_eq_true rfl) dX2_take_33 (fun H locs hP hD hS => ?_)
  refine lv_aload_n hx hb dX2_take_36 rfl (lv_at hl 0 rfl) ?_
  refine lv_aload_n hx hb dX2_take_37 rfl (lv_at hl 1 rfl) ?_
  refine va_get (D := (dC, dI)) (ci := 2) (v := .int 0) (C := RX2) (T := TX2) (N := 4) hx hb hts i_X2_take_X2 hown hK hP 3 rfl rfl 2 (by decide) (hts _ m_X2_take_6) (fun _ h9 => h9) rfl dX2_take_38 ?_
  refine va_put (D := (dC, dI)) (ci := 2) (v := .int 0) (ty := .int) (C := RX2) (T := TX2) (N := 4) hx hb hts i_X2_take_X2 tyX2 tyX2_ok nmX2 hown hK hP hD hS 0 rfl rfl 2 (by decide) (hts _ m_X2_take_6) (fun _ h9 => h9) rfl (by decide +kernel) rfl rfl (Nat.le_of_ble_eq_true rfl) dX2_take_41 (fun H locs hP hD hS => ?_)
  refine lv_aload_n hx hb dX2_take_44 rfl (lv_at hl 0 rfl) ?_
  refine lv_aload_n hx hb dX2_take_45 rfl (lv_at hl 1 rfl) ?_
  refine va_get (D := (dC, dI)) (ci := 2) (v := .int 0) (C := RX2) (T := TX2) (N := 4) hx hb hts i_X2_take_X2 hown hK hP 3 rfl rfl 3 (by decide) (hts _ m_X2_take_7) (fun _ h9 => h9) rfl dX2_take_46 ?_
  refine va_put (D := (dC, dI)) (ci := 2) (v := .int 0) (ty := .int) (C := RX2) (T := TX2) (N := 4) hx hb hts i_X2_take_X2 tyX2 tyX2_ok nmX2 hown hK hP hD hS 0 rfl rfl 3 (by decide) (hts _ m_X2_take_7) (fun _ h9 => h9) rfl (by decide +kernel) rfl rfl (Nat.le_of_ble_eq_true rfl) dX2_take_49 (fun H locs hP hD hS => ?_)
  have hP9 := hP.sub (ws' := [(a 15, .inr (2, [.ref (a 16), .ref (a 17), .int 0, .int 0])), (a 16, .inl (cy 0, 16, .inl (fun _ => 0))), (a 17, .inl (cy 0, 16, .inl (fun _ => 0)))]) [3, 4, 5] rfl
  have hD9 := hD.sub (ws' := [(a 15, .inr (2, [.ref (a 16), .ref (a 17), .int 0, .int 0])), (a 16, .inl (cy 0, 16, .inl (fun _ => 0))), (a 17, .inl (cy 0, 16, .inl (fun _ => 0)))]) [3, 4, 5] (by decide) rfl
  exact W.vret hx hb hr (fun t ht hW => ⟨⟨((fun k => [].getD k 0, fun k => [].getD k (fun _ => 0), fun k => [].getD k (fun _ => none)) : uS), rfl, trivial, (by rw [ht]; exact hP9), hD9⟩, hS.F ht⟩) hS.2.2 dX2_take_52

set_option maxHeartbeats 4000000 in
set_option maxRecDepth 100000 in
theorem c_X2_take_s (l : Launch) (dC : Nat → ClassId) (dI : Nat → Nat → Nat) (cy : Nat → ClassId) (a : Nat → Nat) (g : Nat → Nat → Option Nat) (sz : Nat) : Met l yX2_take v_X2_take ({ frames := 1, cells := 0, slots := 0, locals := 40 }) (va_Pc [.ref (a 52), .ref (a 18)] (ps dC dI cy ([(a 52, .inr (2, [.ref (a 53), .ref (a 54), .int 0, .int 0])), (a 53, .inl (cy 0, 32, .inl (fun _ => 0))), (a 54, .inl (cy 0, 32, .inl (fun _ => 0))), (a 18, .inr (2, [.ref (a 19), .ref (a 20), .int 0, .int 0])), (a 19, .inl (cy 0, 32, .inl (fun _ => 0))), (a 20, .inl (cy 0, 32, .inl (fun _ => 0)))]) sz)) (va_Qv (fun (_ : uS) => True) (fun (_ : uS) (t : State) => va_P (dC, dI) vwCl ([(a 18, .inr (2, [.ref (a 19), .ref (a 20), .int 0, .int 0])), (a 19, .inl (cy 0, 32, .inl (fun _ => 0))), (a 20, .inl (cy 0, 32, .inl (fun _ => 0)))]) t.heap ∧ va_D (va_A ([(a 52, .inr (2, [.ref (a 53), .ref (a 54), .int 0, .int 0])), (a 53, .inl (cy 0, 32, .inl (fun _ => 0))), (a 54, .inl (cy 0, 32, .inl (fun _ => 0))), (a 18, .inr (2, [.ref (a 19), .ref (a 20), .int 0, .int 0])), (a 19, .inl (cy 0, 32, .inl (fun _ => 0))), (a 20, .inl (cy 0, 32, .inl (fun _ => 0)))]) sz) ([(a 18, .inr (2, [.ref (a 19), .ref (a 20), .int 0, .int 0])), (a 19, .inl (cy 0, 32, .inl (fun _ => 0))), (a 20, .inl (cy 0, 32, .inl (fun _ => 0)))])) (va_A ([(a 52, .inr (2, [.ref (a 53), .ref (a 54), .int 0, .int 0])), (a 53, .inl (cy 0, 32, .inl (fun _ => 0))), (a 54, .inl (cy 0, 32, .inl (fun _ => 0))), (a 18, .inr (2, [.ref (a 19), .ref (a 20), .int 0, .int 0])), (a 19, .inl (cy 0, 32, .inl (fun _ => 0))), (a 20, .inl (cy 0, 32, .inl (fun _ => 0)))]) sz)) 0 0 (va_A ([(a 52, .inr (2, [.ref (a 53), .ref (a 54), .int 0, .int 0])), (a 53, .inl (cy 0, 32, .inl (fun _ => 0))), (a 54, .inl (cy 0, 32, .inl (fun _ => 0))), (a 18, .inr (2, [.ref (a 19), .ref (a 20), .int 0, .int 0])), (a 19, .inl (cy 0, 32, .inl (fun _ => 0))), (a 20, .inl (cy 0, 32, .inl (fun _ => 0)))]) sz) := by
  refine Met.ofW (cc := cX2_take) (maxL := 2) (ret := none) (by decide) rfl ?_
  intro p e s m args below meth c s₁ B hml hv
  obtain ⟨rfl, hsz, hP, hC, hD0⟩ := hv
  have hK := hC.1
  have hx := B.exec
  have hb := B.bytes
  have hr := B.returns
  have hts := atoms_spec (ws := v_X2_take) B.pre
  have hown : s.vm.findClass RX2 = some m.cls := findClass_of_methodNamed B.named
  have hlocks := B.notSynchronized
  subst hsz
  have hD := hD0.self (sz := s.heap.size)
  generalize hAe : va_A ([(a 52, .inr (2, [.ref (a 53), .ref (a 54), .int 0, .int 0])), (a 53, .inl (cy 0, 32, .inl (fun _ => 0))), (a 54, .inl (cy 0, 32, .inl (fun _ => 0))), (a 18, .inr (2, [.ref (a 19), .ref (a 20), .int 0, .int 0])), (a 19, .inl (cy 0, 32, .inl (fun _ => 0))), (a 20, .inl (cy 0, 32, .inl (fun _ => 0)))]) s.heap.size = A at hD ⊢
  have hA : ∀ q : Nat, s.heap.size ≤ q → A q := fun q h => by rw [← hAe]; exact Or.inr h
  have hS : va_S A s.heap s.heap [] := va_S.rf
  have hl := lv_entry ([.ref (a 52), .ref (a 18)]) (n := 2) (Nat.le_of_ble_eq_true rfl)
  rw [lg_entry_eq]
  generalize (lg_sl ([.ref (a 52), .ref (a 18)]) ++ List.replicate (2 - (lg_sl ([.ref (a 52), .ref (a 18)])).length) Slot.unset).toArray = ls at hl ⊢
  have hl : lv_has ls 2 [(0, .ref (a 52)), (1, .ref (a 18))] := hl
  refine lv_aload_n hx hb dX2_take_0 rfl (lv_at hl 1 rfl) ?_
  refine va_get (D := (dC, dI)) (ci := 2) (v := .ref (a 19)) (C := RX2) (T := TX2) (N := 4) hx hb hts i_X2_take_X2 hown hK hP 3 rfl rfl 0 (by decide) (hts _ m_X2_take_0) (fun _ h9 => h9) rfl dX2_take_1 ?_
  refine lv_iconst (v := 0) hx hb dX2_take_4 (by decide) ?_
  refine lv_aload_n hx hb dX2_take_5 rfl (lv_at hl 0 rfl) ?_
  refine va_get (D := (dC, dI)) (ci := 2) (v := .ref (a 53)) (C := RX2) (T := TX2) (N := 4) hx hb hts i_X2_take_X2 hown hK hP 0 rfl rfl 0 (by decide) (hts _ m_X2_take_0) (fun _ h9 => h9) rfl dX2_take_6 ?_
  refine lv_iconst (v := 0) hx hb dX2_take_9 (by decide) ?_
  refine lv_aload_n hx hb dX2_take_10 rfl (lv_at hl 0 rfl) ?_
  refine va_get (D := (dC, dI)) (ci := 2) (v := .ref (a 53)) (C := RX2) (T := TX2) (N := 4) hx hb hts i_X2_take_X2 hown hK hP 0 rfl rfl 0 (by decide) (hts _ m_X2_take_0) (fun _ h9 => h9) rfl dX2_take_11 ?_
  refine va_alen hx hb hK hP 1 0 rfl rfl (v := 32) (by decide) dX2_take_14 ?_
  refine va_copyi hx hb (hml.trans hl.1.symm) hown (hts _ m_X2_take_1) (hts _ m_X2_take_2) (hts _ m_X2_take_3) (hts _ m_X2_take_4) hK hP hD hS 4 1 0 0 rfl rfl rfl rfl rfl (by decide) (by decide) (by decide) (by decide) (by decide) (fun _ _ => rfl) (Nat.le_of_ble_eq_true rfl) (Nat.le_of_ble_eq_true rfl) dX2_take_15 (fun H locs hP hD hS => ?_)
  refine lv_aload_n hx hb dX2_take_18 rfl (lv_at hl 1 rfl) ?_
  refine va_get (D := (dC, dI)) (ci := 2) (v := .ref (a 20)) (C := RX2) (T := TX2) (N := 4) hx hb hts i_X2_take_X2 hown hK hP 3 rfl rfl 1 (by decide) (hts _ m_X2_take_5) (fun _ h9 => h9) rfl dX2_take_19 ?_
  refine lv_iconst (v := 0) hx hb dX2_take_22 (by decide) ?_
  refine lv_aload_n hx hb dX2_take_23 rfl (lv_at hl 0 rfl) ?_
  refine va_get (D := (dC, dI)) (ci := 2) (v := .ref (a 54)) (C := RX2) (T := TX2) (N := 4) hx hb hts i_X2_take_X2 hown hK hP 0 rfl rfl 1 (by decide) (hts _ m_X2_take_5) (fun _ h9 => h9) rfl dX2_take_24 ?_
  refine lv_iconst (v := 0) hx hb dX2_take_27 (by decide) ?_
  refine lv_aload_n hx hb dX2_take_28 rfl (lv_at hl 0 rfl) ?_
  refine va_get (D := (dC, dI)) (ci := 2) (v := .ref (a 54)) (C := RX2) (T := TX2) (N := 4) hx hb hts i_X2_take_X2 hown hK hP 0 rfl rfl 1 (by decide) (hts _ m_X2_take_5) (fun _ h9 => h9) rfl dX2_take_29 ?_
  refine va_alen hx hb hK hP 2 0 rfl rfl (v := 32) (by decide) dX2_take_32 ?_
  refine va_copyi hx hb (hml.trans hl.1.symm) hown (hts _ m_X2_take_1) (hts _ m_X2_take_2) (hts _ m_X2_take_3) (hts _ m_X2_take_4) hK hP hD hS 5 2 0 0 rfl rfl rfl rfl rfl (by decide) (by decide) (by decide) (by decide) (by decide) (fun _ _ => rfl) (Nat.le_of_ble_eq_true rfl) (Nat.le_of_ble_eq_true rfl) dX2_take_33 (fun H locs hP hD hS => ?_)
  refine lv_aload_n hx hb dX2_take_36 rfl (lv_at hl 0 rfl) ?_
  refine lv_aload_n hx hb dX2_take_37 rfl (lv_at hl 1 rfl) ?_
  refine va_get (D := (dC, dI)) (ci := 2) (v := .int 0) (C := RX2) (T := TX2) (N := 4) hx hb hts i_X2_take_X2 hown hK hP 3 rfl rfl 2 (by decide) (hts _ m_X2_take_6) (fun _ h9 => h9) rfl dX2_take_38 ?_
  refine va_put (D := (dC, dI)) (ci := 2) (v := .int 0) (ty := .int) (C := RX2) (T := TX2) (N := 4) hx hb hts i_X2_take_X2 tyX2 tyX2_ok nmX2 hown hK hP hD hS 0 rfl rfl 2 (by decide) (hts _ m_X2_take_6) (fun _ h9 => h9) rfl (by decide +kernel) rfl rfl (Nat.le_of_ble_eq_true rfl) dX2_take_41 (fun H locs hP hD hS => ?_)
  refine lv_aload_n hx hb dX2_take_44 rfl (lv_at hl 0 rfl) ?_
  refine lv_aload_n hx hb dX2_take_45 rfl (lv_at hl 1 rfl) ?_
  refine va_get (D := (dC, dI)) (ci := 2) (v := .int 0) (C := RX2) (T := TX2) (N := 4) hx hb hts i_X2_take_X2 hown hK hP 3 rfl rfl 3 (by decide) (hts _ m_X2_take_7) (fun _ h9 => h9) rfl dX2_take_46 ?_
  refine va_put (D := (dC, dI)) (ci := 2) (v := .int 0) (ty := .int) (C := RX2) (T := TX2) (N := 4) hx hb hts i_X2_take_X2 tyX2 tyX2_ok nmX2 hown hK hP hD hS 0 rfl rfl 3 (by decide) (hts _ m_X2_take_7) (fun _ h9 => h9) rfl (by decide +kernel) rfl rfl (Nat.le_of_ble_eq_true rfl) dX2_take_49 (fun H locs hP hD hS => ?_)
  have hP9 := hP.sub (ws' := [(a 18, .inr (2, [.ref (a 19), .ref (a 20), .int 0, .int 0])), (a 19, .inl (cy 0, 32, .inl (fun _ => 0))), (a 20, .inl (cy 0, 32, .inl (fun _ => 0)))]) [3, 4, 5] rfl
  have hD9 := hD.sub (ws' := [(a 18, .inr (2, [.ref (a 19), .ref (a 20), .int 0, .int 0])), (a 19, .inl (cy 0, 32, .inl (fun _ => 0))), (a 20, .inl (cy 0, 32, .inl (fun _ => 0)))]) [3, 4, 5] (by decide) rfl
  exact W.vret hx hb hr (fun t ht hW => ⟨⟨((fun k => [].getD k 0, fun k => [].getD k (fun _ => 0), fun k => [].getD k (fun _ => none)) : uS), rfl, trivial, (by rw [ht]; exact hP9), hD9⟩, hS.F ht⟩) hS.2.2 dX2_take_52

theorem dX8_take_0 : decode cX8_take 0 = .ok (.aload_n 0, 1) := by decide +kernel
theorem dX8_take_1 : decode cX8_take 1 = .ok (.aload_n 1, 1) := by decide +kernel
theorem dX8_take_2 : decode cX8_take 2 = .ok (.getfield 9, 3) := by decide +kernel
theorem dX8_take_5 : decode cX8_take 5 = .ok (.putfield 9, 3) := by decide +kernel
theorem dX8_take_8 : decode cX8_take 8 = .ok (.aload_n 0, 1) := by decide +kernel
theorem dX8_take_9 : decode cX8_take 9 = .ok (.aload_n 1, 1) := by decide +kernel
theorem dX8_take_10 : decode cX8_take 10 = .ok (.getfield 83, 3) := by decide +kernel
theorem dX8_take_13 : decode cX8_take 13 = .ok (.putfield 83, 3) := by decide +kernel
theorem dX8_take_16 : decode cX8_take 16 = .ok (.aload_n 0, 1) := by decide +kernel
theorem dX8_take_17 : decode cX8_take 17 = .ok (.aload_n 1, 1) := by decide +kernel
theorem dX8_take_18 : decode cX8_take 18 = .ok (.getfield 86, 3) := by decide +kernel
theorem dX8_take_21 : decode cX8_take 21 = .ok (.putfield 86, 3) := by decide +kernel
theorem dX8_take_24 : decode cX8_take 24 = .ok (.aload_n 1, 1) := by decide +kernel
theorem dX8_take_25 : decode cX8_take 25 = .ok (.getfield 15, 3) := by decide +kernel
theorem dX8_take_28 : decode cX8_take 28 = .ok (.iconst 0, 1) := by decide +kernel
theorem dX8_take_29 : decode cX8_take 29 = .ok (.aload_n 0, 1) := by decide +kernel
theorem dX8_take_30 : decode cX8_take 30 = .ok (.getfield 15, 3) := by decide +kernel
theorem dX8_take_33 : decode cX8_take 33 = .ok (.iconst 0, 1) := by decide +kernel
theorem dX8_take_34 : decode cX8_take 34 = .ok (.bipush 32, 2) := by decide +kernel
theorem dX8_take_36 : decode cX8_take 36 = .ok (.invokestatic 77, 3) := by decide +kernel
theorem dX8_take_39 : decode cX8_take 39 = .ok (.aload_n 1, 1) := by decide +kernel
theorem dX8_take_40 : decode cX8_take 40 = .ok (.getfield 19, 3) := by decide +kernel
theorem dX8_take_43 : decode cX8_take 43 = .ok (.iconst 0, 1) := by decide +kernel
theorem dX8_take_44 : decode cX8_take 44 = .ok (.aload_n 0, 1) := by decide +kernel
theorem dX8_take_45 : decode cX8_take 45 = .ok (.getfield 19, 3) := by decide +kernel
theorem dX8_take_48 : decode cX8_take 48 = .ok (.iconst 0, 1) := by decide +kernel
theorem dX8_take_49 : decode cX8_take 49 = .ok (.sipush 192, 3) := by decide +kernel
theorem dX8_take_52 : decode cX8_take 52 = .ok (.invokestatic 77, 3) := by decide +kernel
theorem dX8_take_55 : decode cX8_take 55 = .ok (.aload_n 1, 1) := by decide +kernel
theorem dX8_take_56 : decode cX8_take 56 = .ok (.getfield 22, 3) := by decide +kernel
theorem dX8_take_59 : decode cX8_take 59 = .ok (.iconst 0, 1) := by decide +kernel
theorem dX8_take_60 : decode cX8_take 60 = .ok (.aload_n 0, 1) := by decide +kernel
theorem dX8_take_61 : decode cX8_take 61 = .ok (.getfield 22, 3) := by decide +kernel
theorem dX8_take_64 : decode cX8_take 64 = .ok (.iconst 0, 1) := by decide +kernel
theorem dX8_take_65 : decode cX8_take 65 = .ok (.bipush 32, 2) := by decide +kernel
theorem dX8_take_67 : decode cX8_take 67 = .ok (.invokestatic 77, 3) := by decide +kernel
theorem dX8_take_70 : decode cX8_take 70 = .ok (.aload_n 1, 1) := by decide +kernel
theorem dX8_take_71 : decode cX8_take 71 = .ok (.getfield 25, 3) := by decide +kernel
theorem dX8_take_74 : decode cX8_take 74 = .ok (.iconst 0, 1) := by decide +kernel
theorem dX8_take_75 : decode cX8_take 75 = .ok (.aload_n 0, 1) := by decide +kernel
theorem dX8_take_76 : decode cX8_take 76 = .ok (.getfield 25, 3) := by decide +kernel
theorem dX8_take_79 : decode cX8_take 79 = .ok (.iconst 0, 1) := by decide +kernel
theorem dX8_take_80 : decode cX8_take 80 = .ok (.bipush 32, 2) := by decide +kernel
theorem dX8_take_82 : decode cX8_take 82 = .ok (.invokestatic 77, 3) := by decide +kernel
theorem dX8_take_85 : decode cX8_take 85 = .ok (.aload_n 1, 1) := by decide +kernel
theorem dX8_take_86 : decode cX8_take 86 = .ok (.getfield 28, 3) := by decide +kernel
theorem dX8_take_89 : decode cX8_take 89 = .ok (.iconst 0, 1) := by decide +kernel
theorem dX8_take_90 : decode cX8_take 90 = .ok (.aload_n 0, 1) := by decide +kernel
theorem dX8_take_91 : decode cX8_take 91 = .ok (.getfield 28, 3) := by decide +kernel
theorem dX8_take_94 : decode cX8_take 94 = .ok (.iconst 0, 1) := by decide +kernel
theorem dX8_take_95 : decode cX8_take 95 = .ok (.bipush 32, 2) := by decide +kernel
theorem dX8_take_97 : decode cX8_take 97 = .ok (.invokestatic 77, 3) := by decide +kernel
theorem dX8_take_100 : decode cX8_take 100 = .ok (.aload_n 1, 1) := by decide +kernel
theorem dX8_take_101 : decode cX8_take 101 = .ok (.getfield 31, 3) := by decide +kernel
theorem dX8_take_104 : decode cX8_take 104 = .ok (.iconst 0, 1) := by decide +kernel
theorem dX8_take_105 : decode cX8_take 105 = .ok (.aload_n 0, 1) := by decide +kernel
theorem dX8_take_106 : decode cX8_take 106 = .ok (.getfield 31, 3) := by decide +kernel
theorem dX8_take_109 : decode cX8_take 109 = .ok (.iconst 0, 1) := by decide +kernel
theorem dX8_take_110 : decode cX8_take 110 = .ok (.bipush 32, 2) := by decide +kernel
theorem dX8_take_112 : decode cX8_take 112 = .ok (.invokestatic 77, 3) := by decide +kernel
theorem dX8_take_115 : decode cX8_take 115 = .ok (.aload_n 1, 1) := by decide +kernel
theorem dX8_take_116 : decode cX8_take 116 = .ok (.getfield 34, 3) := by decide +kernel
theorem dX8_take_119 : decode cX8_take 119 = .ok (.iconst 0, 1) := by decide +kernel
theorem dX8_take_120 : decode cX8_take 120 = .ok (.aload_n 0, 1) := by decide +kernel
theorem dX8_take_121 : decode cX8_take 121 = .ok (.getfield 34, 3) := by decide +kernel
theorem dX8_take_124 : decode cX8_take 124 = .ok (.iconst 0, 1) := by decide +kernel
theorem dX8_take_125 : decode cX8_take 125 = .ok (.bipush 32, 2) := by decide +kernel
theorem dX8_take_127 : decode cX8_take 127 = .ok (.invokestatic 77, 3) := by decide +kernel
theorem dX8_take_130 : decode cX8_take 130 = .ok (.aload_n 1, 1) := by decide +kernel
theorem dX8_take_131 : decode cX8_take 131 = .ok (.getfield 37, 3) := by decide +kernel
theorem dX8_take_134 : decode cX8_take 134 = .ok (.iconst 0, 1) := by decide +kernel
theorem dX8_take_135 : decode cX8_take 135 = .ok (.aload_n 0, 1) := by decide +kernel
theorem dX8_take_136 : decode cX8_take 136 = .ok (.getfield 37, 3) := by decide +kernel
theorem dX8_take_139 : decode cX8_take 139 = .ok (.iconst 0, 1) := by decide +kernel
theorem dX8_take_140 : decode cX8_take 140 = .ok (.sipush 192, 3) := by decide +kernel
theorem dX8_take_143 : decode cX8_take 143 = .ok (.invokestatic 77, 3) := by decide +kernel
theorem dX8_take_146 : decode cX8_take 146 = .ok (.aload_n 1, 1) := by decide +kernel
theorem dX8_take_147 : decode cX8_take 147 = .ok (.getfield 40, 3) := by decide +kernel
theorem dX8_take_150 : decode cX8_take 150 = .ok (.iconst 0, 1) := by decide +kernel
theorem dX8_take_151 : decode cX8_take 151 = .ok (.aload_n 0, 1) := by decide +kernel
theorem dX8_take_152 : decode cX8_take 152 = .ok (.getfield 40, 3) := by decide +kernel
theorem dX8_take_155 : decode cX8_take 155 = .ok (.iconst 0, 1) := by decide +kernel
theorem dX8_take_156 : decode cX8_take 156 = .ok (.sipush 128, 3) := by decide +kernel
theorem dX8_take_159 : decode cX8_take 159 = .ok (.invokestatic 77, 3) := by decide +kernel
theorem dX8_take_162 : decode cX8_take 162 = .ok (.aload_n 1, 1) := by decide +kernel
theorem dX8_take_163 : decode cX8_take 163 = .ok (.getfield 43, 3) := by decide +kernel
theorem dX8_take_166 : decode cX8_take 166 = .ok (.iconst 0, 1) := by decide +kernel
theorem dX8_take_167 : decode cX8_take 167 = .ok (.aload_n 0, 1) := by decide +kernel
theorem dX8_take_168 : decode cX8_take 168 = .ok (.getfield 43, 3) := by decide +kernel
theorem dX8_take_171 : decode cX8_take 171 = .ok (.iconst 0, 1) := by decide +kernel
theorem dX8_take_172 : decode cX8_take 172 = .ok (.bipush 32, 2) := by decide +kernel
theorem dX8_take_174 : decode cX8_take 174 = .ok (.invokestatic 77, 3) := by decide +kernel
theorem dX8_take_177 : decode cX8_take 177 = .ok (.aload_n 1, 1) := by decide +kernel
theorem dX8_take_178 : decode cX8_take 178 = .ok (.getfield 46, 3) := by decide +kernel
theorem dX8_take_181 : decode cX8_take 181 = .ok (.iconst 0, 1) := by decide +kernel
theorem dX8_take_182 : decode cX8_take 182 = .ok (.aload_n 0, 1) := by decide +kernel
theorem dX8_take_183 : decode cX8_take 183 = .ok (.getfield 46, 3) := by decide +kernel
theorem dX8_take_186 : decode cX8_take 186 = .ok (.iconst 0, 1) := by decide +kernel
theorem dX8_take_187 : decode cX8_take 187 = .ok (.sipush 192, 3) := by decide +kernel
theorem dX8_take_190 : decode cX8_take 190 = .ok (.invokestatic 77, 3) := by decide +kernel
theorem dX8_take_193 : decode cX8_take 193 = .ok (.aload_n 0, 1) := by decide +kernel
theorem dX8_take_194 : decode cX8_take 194 = .ok (.getfield 52, 3) := by decide +kernel
theorem dX8_take_197 : decode cX8_take 197 = .ok (.aload_n 1, 1) := by decide +kernel
theorem dX8_take_198 : decode cX8_take 198 = .ok (.getfield 52, 3) := by decide +kernel
theorem dX8_take_201 : decode cX8_take 201 = .ok (.invokevirtual 89, 3) := by decide +kernel
theorem dX8_take_204 : decode cX8_take 204 = .ok (.aload_n 0, 1) := by decide +kernel
theorem dX8_take_205 : decode cX8_take 205 = .ok (.getfield 61, 3) := by decide +kernel
theorem dX8_take_208 : decode cX8_take 208 = .ok (.aload_n 1, 1) := by decide +kernel
theorem dX8_take_209 : decode cX8_take 209 = .ok (.getfield 61, 3) := by decide +kernel
theorem dX8_take_212 : decode cX8_take 212 = .ok (.invokevirtual 93, 3) := by decide +kernel
theorem dX8_take_215 : decode cX8_take 215 = .ok (.aload_n 0, 1) := by decide +kernel
theorem dX8_take_216 : decode cX8_take 216 = .ok (.getfield 65, 3) := by decide +kernel
theorem dX8_take_219 : decode cX8_take 219 = .ok (.aload_n 1, 1) := by decide +kernel
theorem dX8_take_220 : decode cX8_take 220 = .ok (.getfield 65, 3) := by decide +kernel
theorem dX8_take_223 : decode cX8_take 223 = .ok (.invokevirtual 93, 3) := by decide +kernel
theorem dX8_take_226 : decode cX8_take 226 = .ok (.return_, 1) := by decide +kernel
def v_X8_take : List Cond := .code yX8_take cX8_take 2 none :: ([.fieldLink RX8 9 "RestBoard$State" "size" "I", .fieldLink RX8 83 "RestBoard$State" "resting" "I", .fieldLink RX8 86 "RestBoard$State" "raised" "I", .fieldLink RX8 15 "RestBoard$State" "values" "[I", .methodLink RX8 77 arraycopyName, .native arraycopyName, .static arraycopyName, .initialized "java/lang/System", .fieldLink RX8 19 "RestBoard$State" "packed" "[I", .fieldLink RX8 22 "RestBoard$State" "counts" "[I", .fieldLink RX8 25 "RestBoard$State" "forgotten" "[I", .fieldLink RX8 28 "RestBoard$State" "powers" "[I", .fieldLink RX8 31 "RestBoard$State" "lines" "[I", .fieldLink RX8 34 "RestBoard$State" "depths" "[I", .fieldLink RX8 37 "RestBoard$State" "wanting" "[I", .fieldLink RX8 40 "RestBoard$State" "tied" "[I", .fieldLink RX8 43 "RestBoard$State" "oldPowers" "[I", .fieldLink RX8 46 "RestBoard$State" "oldWanting" "[I", .fieldLink RX8 52 "RestBoard$State" "registers" "LRestBoard$Registers;", .fieldLink RX8 61 "RestBoard$State" "notes" "LRestBoard$Log;", .fieldLink RX8 65 "RestBoard$State" "switches" "LRestBoard$Log;", .methodLink RX8 89 yX6_take, .instanceMethod yX6_take, .selects RX6 yX6_take yX6_take, .initialized RX6, .code yX6_take cX6_take 2 none, .fieldLink RX6 9 "RestBoard$Registers" "bytes" "[I", .methodLink RX6 55 arraycopyName, .fieldLink RX6 61 "RestBoard$Registers" "select" "I", .fieldLink RX6 31 "RestBoard$Registers" "reads" "I", .fieldLink RX6 52 "RestBoard$Registers" "writes" "I", .methodLink RX8 93 yX2_take, .instanceMethod yX2_take, .selects RX2 yX2_take yX2_take, .initialized RX2, .code yX2_take cX2_take 2 none, .fieldLink RX2 9 "RestBoard$Log" "who" "[I", .methodLink RX2 25 arraycopyName, .fieldLink RX2 15 "RestBoard$Log" "what" "[I", .fieldLink RX2 22 "RestBoard$Log" "kept" "I", .fieldLink RX2 18 "RestBoard$Log" "next" "I"] ++ wsX80 ++ wsX60 ++ wsX20)
theorem m_X8_take_0 : (.fieldLink RX8 9 "RestBoard$State" "size" "I" : Cond) ∈ v_X8_take := List.mem_of_getElem? (i := 1) (by decide +kernel)
theorem m_X8_take_1 : (.fieldLink RX8 83 "RestBoard$State" "resting" "I" : Cond) ∈ v_X8_take := List.mem_of_getElem? (i := 2) (by decide +kernel)
theorem m_X8_take_2 : (.fieldLink RX8 86 "RestBoard$State" "raised" "I" : Cond) ∈ v_X8_take := List.mem_of_getElem? (i := 3) (by decide +kernel)
theorem m_X8_take_3 : (.fieldLink RX8 15 "RestBoard$State" "values" "[I" : Cond) ∈ v_X8_take := List.mem_of_getElem? (i := 4) (by decide +kernel)
theorem m_X8_take_4 : (.methodLink RX8 77 arraycopyName : Cond) ∈ v_X8_take := List.mem_of_getElem? (i := 5) (by decide +kernel)
theorem m_X8_take_5 : (.native arraycopyName : Cond) ∈ v_X8_take := List.mem_of_getElem? (i := 6) (by decide +kernel)
theorem m_X8_take_6 : (.static arraycopyName : Cond) ∈ v_X8_take := List.mem_of_getElem? (i := 7) (by decide +kernel)
theorem m_X8_take_7 : (.initialized "java/lang/System" : Cond) ∈ v_X8_take := List.mem_of_getElem? (i := 8) (by decide +kernel)
theorem m_X8_take_8 : (.fieldLink RX8 19 "RestBoard$State" "packed" "[I" : Cond) ∈ v_X8_take := List.mem_of_getElem? (i := 9) (by decide +kernel)
theorem m_X8_take_9 : (.fieldLink RX8 22 "RestBoard$State" "counts" "[I" : Cond) ∈ v_X8_take := List.mem_of_getElem? (i := 10) (by decide +kernel)
theorem m_X8_take_10 : (.fieldLink RX8 25 "RestBoard$State" "forgotten" "[I" : Cond) ∈ v_X8_take := List.mem_of_getElem? (i := 11) (by decide +kernel)
theorem m_X8_take_11 : (.fieldLink RX8 28 "RestBoard$State" "powers" "[I" : Cond) ∈ v_X8_take := List.mem_of_getElem? (i := 12) (by decide +kernel)
theorem m_X8_take_12 : (.fieldLink RX8 31 "RestBoard$State" "lines" "[I" : Cond) ∈ v_X8_take := List.mem_of_getElem? (i := 13) (by decide +kernel)
theorem m_X8_take_13 : (.fieldLink RX8 34 "RestBoard$State" "depths" "[I" : Cond) ∈ v_X8_take := List.mem_of_getElem? (i := 14) (by decide +kernel)
theorem m_X8_take_14 : (.fieldLink RX8 37 "RestBoard$State" "wanting" "[I" : Cond) ∈ v_X8_take := List.mem_of_getElem? (i := 15) (by decide +kernel)
theorem m_X8_take_15 : (.fieldLink RX8 40 "RestBoard$State" "tied" "[I" : Cond) ∈ v_X8_take := List.mem_of_getElem? (i := 16) (by decide +kernel)
theorem m_X8_take_16 : (.fieldLink RX8 43 "RestBoard$State" "oldPowers" "[I" : Cond) ∈ v_X8_take := List.mem_of_getElem? (i := 17) (by decide +kernel)
theorem m_X8_take_17 : (.fieldLink RX8 46 "RestBoard$State" "oldWanting" "[I" : Cond) ∈ v_X8_take := List.mem_of_getElem? (i := 18) (by decide +kernel)
theorem m_X8_take_18 : (.fieldLink RX8 52 "RestBoard$State" "registers" "LRestBoard$Registers;" : Cond) ∈ v_X8_take := List.mem_of_getElem? (i := 19) (by decide +kernel)
theorem m_X8_take_19 : (.fieldLink RX8 61 "RestBoard$State" "notes" "LRestBoard$Log;" : Cond) ∈ v_X8_take := List.mem_of_getElem? (i := 20) (by decide +kernel)
theorem m_X8_take_20 : (.fieldLink RX8 65 "RestBoard$State" "switches" "LRestBoard$Log;" : Cond) ∈ v_X8_take := List.mem_of_getElem? (i := 21) (by decide +kernel)
theorem i_X8_take_X8 : ∀ w ∈ u_ws RX8 TX8 17, w ∈ v_X8_take := fun w h => List.mem_cons_of_mem _ (List.mem_append_left _ (List.mem_append_left _ (List.mem_append_right _ h)))
set_option maxRecDepth 100000 in
theorem gg_X8_take_X6_take_89 : GoodIn v_X8_take v_X6_take := goodIn_r _ [26, 27, 28, 6, 7, 8, 29, 30, 31, 59, 60, 61, 62] (by decide +kernel) (by decide +kernel)
set_option maxRecDepth 100000 in
theorem g_X8_take_X6_take_89 : GoodIn v_X8_take (wsV RX8 89 RX6 yX6_take v_X6_take) := goodIn_app (goodIn_r _ [22, 23, 24, 25] (by decide +kernel) (by decide +kernel)) gg_X8_take_X6_take_89
set_option maxRecDepth 100000 in
theorem gg_X8_take_X2_take_93 : GoodIn v_X8_take v_X2_take := goodIn_r _ [36, 37, 38, 6, 7, 8, 39, 40, 41, 63, 64, 65, 66] (by decide +kernel) (by decide +kernel)
set_option maxRecDepth 100000 in
theorem g_X8_take_X2_take_93 : GoodIn v_X8_take (wsV RX8 93 RX2 yX2_take v_X2_take) := goodIn_app (goodIn_r _ [32, 33, 34, 35] (by decide +kernel) (by decide +kernel)) gg_X8_take_X2_take_93
set_option maxHeartbeats 4000000 in
set_option maxRecDepth 100000 in
theorem c_X8_take (l : Launch) (dC : Nat → ClassId) (dI : Nat → Nat → Nat) (cy : Nat → ClassId) (a : Nat → Nat) (g : Nat → Nat → Option Nat) (sz : Nat) : Met l yX8_take v_X8_take ({ frames := 2, cells := 0, slots := 0, locals := 61 }) (va_Pc [.ref (a 35), .ref (a 1)] (ps dC dI cy ([(a 35, .inr (8, [.int 1, .int 0, .int 0, .ref (a 36), .ref (a 37), .ref (a 38), .ref (a 39), .ref (a 40), .ref (a 41), .ref (a 42), .ref (a 43), .ref (a 44), .ref (a 45), .ref (a 46), .ref (a 47), .ref (a 49), .ref (a 52)])), (a 36, .inl (cy 0, 32, .inl (fun _ => 0))), (a 37, .inl (cy 0, 192, .inl (fun _ => 0))), (a 38, .inl (cy 0, 32, .inl (fun _ => 0))), (a 39, .inl (cy 0, 32, .inl (fun _ => 0))), (a 40, .inl (cy 0, 32, .inl (fun _ => 0))), (a 41, .inl (cy 0, 32, .inl (fun _ => (-1)))), (a 42, .inl (cy 0, 32, .inl (fun _ => 0))), (a 43, .inl (cy 0, 192, .inl (fun _ => (-1)))), (a 44, .inl (cy 0, 128, .inl (fun _ => (-1)))), (a 45, .inl (cy 0, 32, .inl (fun _ => 0))), (a 46, .inl (cy 0, 192, .inl (fun _ => 0))), (a 47, .inr (6, [.ref (a 48), .int 0, .int 0, .int 0])), (a 48, .inl (cy 0, 40, .inl (fun _ => 0))), (a 49, .inr (2, [.ref (a 50), .ref (a 51), .int 0, .int 0])), (a 50, .inl (cy 0, 16, .inl (fun _ => 0))), (a 51, .inl (cy 0, 16, .inl (fun _ => 0))), (a 52, .inr (2, [.ref (a 53), .ref (a 54), .int 0, .int 0])), (a 53, .inl (cy 0, 32, .inl (fun _ => 0))), (a 54, .inl (cy 0, 32, .inl (fun _ => 0))), (a 1, .inr (8, [.int 1, .int 0, .int 0, .ref (a 2), .ref (a 3), .ref (a 4), .ref (a 5), .ref (a 6), .ref (a 7), .ref (a 8), .ref (a 9), .ref (a 10), .ref (a 11), .ref (a 12), .ref (a 13), .ref (a 15), .ref (a 18)])), (a 2, .inl (cy 0, 32, .inl (fun _ => 0))), (a 3, .inl (cy 0, 192, .inl (fun _ => 0))), (a 4, .inl (cy 0, 32, .inl (fun _ => 0))), (a 5, .inl (cy 0, 32, .inl (fun _ => 0))), (a 6, .inl (cy 0, 32, .inl (fun _ => 0))), (a 7, .inl (cy 0, 32, .inl (fun _ => (-1)))), (a 8, .inl (cy 0, 32, .inl (fun _ => 0))), (a 9, .inl (cy 0, 192, .inl (fun _ => (-1)))), (a 10, .inl (cy 0, 128, .inl (fun _ => (-1)))), (a 11, .inl (cy 0, 32, .inl (fun _ => 0))), (a 12, .inl (cy 0, 192, .inl (fun _ => 0))), (a 13, .inr (6, [.ref (a 14), .int 0, .int 0, .int 0])), (a 14, .inl (cy 0, 40, .inl (fun _ => 0))), (a 15, .inr (2, [.ref (a 16), .ref (a 17), .int 0, .int 0])), (a 16, .inl (cy 0, 16, .inl (fun _ => 0))), (a 17, .inl (cy 0, 16, .inl (fun _ => 0))), (a 18, .inr (2, [.ref (a 19), .ref (a 20), .int 0, .int 0])), (a 19, .inl (cy 0, 32, .inl (fun _ => 0))), (a 20, .inl (cy 0, 32, .inl (fun _ => 0)))]) sz)) (va_Qv (fun (_ : uS) => True) (fun (_ : uS) (t : State) => va_P (dC, dI) vwCl ([(a 1, .inr (8, [.int 1, .int 0, .int 0, .ref (a 2), .ref (a 3), .ref (a 4), .ref (a 5), .ref (a 6), .ref (a 7), .ref (a 8), .ref (a 9), .ref (a 10), .ref (a 11), .ref (a 12), .ref (a 13), .ref (a 15), .ref (a 18)])), (a 2, .inl (cy 0, 32, .inl (fun _ => 0))), (a 3, .inl (cy 0, 192, .inl (fun _ => 0))), (a 4, .inl (cy 0, 32, .inl (fun _ => 0))), (a 5, .inl (cy 0, 32, .inl (fun _ => 0))), (a 6, .inl (cy 0, 32, .inl (fun _ => 0))), (a 7, .inl (cy 0, 32, .inl (fun _ => (-1)))), (a 8, .inl (cy 0, 32, .inl (fun _ => 0))), (a 9, .inl (cy 0, 192, .inl (fun _ => (-1)))), (a 10, .inl (cy 0, 128, .inl (fun _ => (-1)))), (a 11, .inl (cy 0, 32, .inl (fun _ => 0))), (a 12, .inl (cy 0, 192, .inl (fun _ => 0))), (a 13, .inr (6, [.ref (a 14), .int 0, .int 0, .int 0])), (a 14, .inl (cy 0, 40, .inl (fun _ => 0))), (a 15, .inr (2, [.ref (a 16), .ref (a 17), .int 0, .int 0])), (a 16, .inl (cy 0, 16, .inl (fun _ => 0))), (a 17, .inl (cy 0, 16, .inl (fun _ => 0))), (a 18, .inr (2, [.ref (a 19), .ref (a 20), .int 0, .int 0])), (a 19, .inl (cy 0, 32, .inl (fun _ => 0))), (a 20, .inl (cy 0, 32, .inl (fun _ => 0)))]) t.heap ∧ va_D (va_A ([(a 35, .inr (8, [.int 1, .int 0, .int 0, .ref (a 36), .ref (a 37), .ref (a 38), .ref (a 39), .ref (a 40), .ref (a 41), .ref (a 42), .ref (a 43), .ref (a 44), .ref (a 45), .ref (a 46), .ref (a 47), .ref (a 49), .ref (a 52)])), (a 36, .inl (cy 0, 32, .inl (fun _ => 0))), (a 37, .inl (cy 0, 192, .inl (fun _ => 0))), (a 38, .inl (cy 0, 32, .inl (fun _ => 0))), (a 39, .inl (cy 0, 32, .inl (fun _ => 0))), (a 40, .inl (cy 0, 32, .inl (fun _ => 0))), (a 41, .inl (cy 0, 32, .inl (fun _ => (-1)))), (a 42, .inl (cy 0, 32, .inl (fun _ => 0))), (a 43, .inl (cy 0, 192, .inl (fun _ => (-1)))), (a 44, .inl (cy 0, 128, .inl (fun _ => (-1)))), (a 45, .inl (cy 0, 32, .inl (fun _ => 0))), (a 46, .inl (cy 0, 192, .inl (fun _ => 0))), (a 47, .inr (6, [.ref (a 48), .int 0, .int 0, .int 0])), (a 48, .inl (cy 0, 40, .inl (fun _ => 0))), (a 49, .inr (2, [.ref (a 50), .ref (a 51), .int 0, .int 0])), (a 50, .inl (cy 0, 16, .inl (fun _ => 0))), (a 51, .inl (cy 0, 16, .inl (fun _ => 0))), (a 52, .inr (2, [.ref (a 53), .ref (a 54), .int 0, .int 0])), (a 53, .inl (cy 0, 32, .inl (fun _ => 0))), (a 54, .inl (cy 0, 32, .inl (fun _ => 0))), (a 1, .inr (8, [.int 1, .int 0, .int 0, .ref (a 2), .ref (a 3), .ref (a 4), .ref (a 5), .ref (a 6), .ref (a 7), .ref (a 8), .ref (a 9), .ref (a 10), .ref (a 11), .ref (a 12), .ref (a 13), .ref (a 15), .ref (a 18)])), (a 2, .inl (cy 0, 32, .inl (fun _ => 0))), (a 3, .inl (cy 0, 192, .inl (fun _ => 0))), (a 4, .inl (cy 0, 32, .inl (fun _ => 0))), (a 5, .inl (cy 0, 32, .inl (fun _ => 0))), (a 6, .inl (cy 0, 32, .inl (fun _ => 0))), (a 7, .inl (cy 0, 32, .inl (fun _ => (-1)))), (a 8, .inl (cy 0, 32, .inl (fun _ => 0))), (a 9, .inl (cy 0, 192, .inl (fun _ => (-1)))), (a 10, .inl (cy 0, 128, .inl (fun _ => (-1)))), (a 11, .inl (cy 0, 32, .inl (fun _ => 0))), (a 12, .inl (cy 0, 192, .inl (fun _ => 0))), (a 13, .inr (6, [.ref (a 14), .int 0, .int 0, .int 0])), (a 14, .inl (cy 0, 40, .inl (fun _ => 0))), (a 15, .inr (2, [.ref (a 16), .ref (a 17), .int 0, .int 0])), (a 16, .inl (cy 0, 16, .inl (fun _ => 0))), (a 17, .inl (cy 0, 16, .inl (fun _ => 0))), (a 18, .inr (2, [.ref (a 19), .ref (a 20), .int 0, .int 0])), (a 19, .inl (cy 0, 32, .inl (fun _ => 0))), (a 20, .inl (cy 0, 32, .inl (fun _ => 0)))]) sz) ([(a 1, .inr (8, [.int 1, .int 0, .int 0, .ref (a 2), .ref (a 3), .ref (a 4), .ref (a 5), .ref (a 6), .ref (a 7), .ref (a 8), .ref (a 9), .ref (a 10), .ref (a 11), .ref (a 12), .ref (a 13), .ref (a 15), .ref (a 18)])), (a 2, .inl (cy 0, 32, .inl (fun _ => 0))), (a 3, .inl (cy 0, 192, .inl (fun _ => 0))), (a 4, .inl (cy 0, 32, .inl (fun _ => 0))), (a 5, .inl (cy 0, 32, .inl (fun _ => 0))), (a 6, .inl (cy 0, 32, .inl (fun _ => 0))), (a 7, .inl (cy 0, 32, .inl (fun _ => (-1)))), (a 8, .inl (cy 0, 32, .inl (fun _ => 0))), (a 9, .inl (cy 0, 192, .inl (fun _ => (-1)))), (a 10, .inl (cy 0, 128, .inl (fun _ => (-1)))), (a 11, .inl (cy 0, 32, .inl (fun _ => 0))), (a 12, .inl (cy 0, 192, .inl (fun _ => 0))), (a 13, .inr (6, [.ref (a 14), .int 0, .int 0, .int 0])), (a 14, .inl (cy 0, 40, .inl (fun _ => 0))), (a 15, .inr (2, [.ref (a 16), .ref (a 17), .int 0, .int 0])), (a 16, .inl (cy 0, 16, .inl (fun _ => 0))), (a 17, .inl (cy 0, 16, .inl (fun _ => 0))), (a 18, .inr (2, [.ref (a 19), .ref (a 20), .int 0, .int 0])), (a 19, .inl (cy 0, 32, .inl (fun _ => 0))), (a 20, .inl (cy 0, 32, .inl (fun _ => 0)))])) (va_A ([(a 35, .inr (8, [.int 1, .int 0, .int 0, .ref (a 36), .ref (a 37), .ref (a 38), .ref (a 39), .ref (a 40), .ref (a 41), .ref (a 42), .ref (a 43), .ref (a 44), .ref (a 45), .ref (a 46), .ref (a 47), .ref (a 49), .ref (a 52)])), (a 36, .inl (cy 0, 32, .inl (fun _ => 0))), (a 37, .inl (cy 0, 192, .inl (fun _ => 0))), (a 38, .inl (cy 0, 32, .inl (fun _ => 0))), (a 39, .inl (cy 0, 32, .inl (fun _ => 0))), (a 40, .inl (cy 0, 32, .inl (fun _ => 0))), (a 41, .inl (cy 0, 32, .inl (fun _ => (-1)))), (a 42, .inl (cy 0, 32, .inl (fun _ => 0))), (a 43, .inl (cy 0, 192, .inl (fun _ => (-1)))), (a 44, .inl (cy 0, 128, .inl (fun _ => (-1)))), (a 45, .inl (cy 0, 32, .inl (fun _ => 0))), (a 46, .inl (cy 0, 192, .inl (fun _ => 0))), (a 47, .inr (6, [.ref (a 48), .int 0, .int 0, .int 0])), (a 48, .inl (cy 0, 40, .inl (fun _ => 0))), (a 49, .inr (2, [.ref (a 50), .ref (a 51), .int 0, .int 0])), (a 50, .inl (cy 0, 16, .inl (fun _ => 0))), (a 51, .inl (cy 0, 16, .inl (fun _ => 0))), (a 52, .inr (2, [.ref (a 53), .ref (a 54), .int 0, .int 0])), (a 53, .inl (cy 0, 32, .inl (fun _ => 0))), (a 54, .inl (cy 0, 32, .inl (fun _ => 0))), (a 1, .inr (8, [.int 1, .int 0, .int 0, .ref (a 2), .ref (a 3), .ref (a 4), .ref (a 5), .ref (a 6), .ref (a 7), .ref (a 8), .ref (a 9), .ref (a 10), .ref (a 11), .ref (a 12), .ref (a 13), .ref (a 15), .ref (a 18)])), (a 2, .inl (cy 0, 32, .inl (fun _ => 0))), (a 3, .inl (cy 0, 192, .inl (fun _ => 0))), (a 4, .inl (cy 0, 32, .inl (fun _ => 0))), (a 5, .inl (cy 0, 32, .inl (fun _ => 0))), (a 6, .inl (cy 0, 32, .inl (fun _ => 0))), (a 7, .inl (cy 0, 32, .inl (fun _ => (-1)))), (a 8, .inl (cy 0, 32, .inl (fun _ => 0))), (a 9, .inl (cy 0, 192, .inl (fun _ => (-1)))), (a 10, .inl (cy 0, 128, .inl (fun _ => (-1)))), (a 11, .inl (cy 0, 32, .inl (fun _ => 0))), (a 12, .inl (cy 0, 192, .inl (fun _ => 0))), (a 13, .inr (6, [.ref (a 14), .int 0, .int 0, .int 0])), (a 14, .inl (cy 0, 40, .inl (fun _ => 0))), (a 15, .inr (2, [.ref (a 16), .ref (a 17), .int 0, .int 0])), (a 16, .inl (cy 0, 16, .inl (fun _ => 0))), (a 17, .inl (cy 0, 16, .inl (fun _ => 0))), (a 18, .inr (2, [.ref (a 19), .ref (a 20), .int 0, .int 0])), (a 19, .inl (cy 0, 32, .inl (fun _ => 0))), (a 20, .inl (cy 0, 32, .inl (fun _ => 0)))]) sz)) 0 0 (va_A ([(a 35, .inr (8, [.int 1, .int 0, .int 0, .ref (a 36), .ref (a 37), .ref (a 38), .ref (a 39), .ref (a 40), .ref (a 41), .ref (a 42), .ref (a 43), .ref (a 44), .ref (a 45), .ref (a 46), .ref (a 47), .ref (a 49), .ref (a 52)])), (a 36, .inl (cy 0, 32, .inl (fun _ => 0))), (a 37, .inl (cy 0, 192, .inl (fun _ => 0))), (a 38, .inl (cy 0, 32, .inl (fun _ => 0))), (a 39, .inl (cy 0, 32, .inl (fun _ => 0))), (a 40, .inl (cy 0, 32, .inl (fun _ => 0))), (a 41, .inl (cy 0, 32, .inl (fun _ => (-1)))), (a 42, .inl (cy 0, 32, .inl (fun _ => 0))), (a 43, .inl (cy 0, 192, .inl (fun _ => (-1)))), (a 44, .inl (cy 0, 128, .inl (fun _ => (-1)))), (a 45, .inl (cy 0, 32, .inl (fun _ => 0))), (a 46, .inl (cy 0, 192, .inl (fun _ => 0))), (a 47, .inr (6, [.ref (a 48), .int 0, .int 0, .int 0])), (a 48, .inl (cy 0, 40, .inl (fun _ => 0))), (a 49, .inr (2, [.ref (a 50), .ref (a 51), .int 0, .int 0])), (a 50, .inl (cy 0, 16, .inl (fun _ => 0))), (a 51, .inl (cy 0, 16, .inl (fun _ => 0))), (a 52, .inr (2, [.ref (a 53), .ref (a 54), .int 0, .int 0])), (a 53, .inl (cy 0, 32, .inl (fun _ => 0))), (a 54, .inl (cy 0, 32, .inl (fun _ => 0))), (a 1, .inr (8, [.int 1, .int 0, .int 0, .ref (a 2), .ref (a 3), .ref (a 4), .ref (a 5), .ref (a 6), .ref (a 7), .ref (a 8), .ref (a 9), .ref (a 10), .ref (a 11), .ref (a 12), .ref (a 13), .ref (a 15), .ref (a 18)])), (a 2, .inl (cy 0, 32, .inl (fun _ => 0))), (a 3, .inl (cy 0, 192, .inl (fun _ => 0))), (a 4, .inl (cy 0, 32, .inl (fun _ => 0))), (a 5, .inl (cy 0, 32, .inl (fun _ => 0))), (a 6, .inl (cy 0, 32, .inl (fun _ => 0))), (a 7, .inl (cy 0, 32, .inl (fun _ => (-1)))), (a 8, .inl (cy 0, 32, .inl (fun _ => 0))), (a 9, .inl (cy 0, 192, .inl (fun _ => (-1)))), (a 10, .inl (cy 0, 128, .inl (fun _ => (-1)))), (a 11, .inl (cy 0, 32, .inl (fun _ => 0))), (a 12, .inl (cy 0, 192, .inl (fun _ => 0))), (a 13, .inr (6, [.ref (a 14), .int 0, .int 0, .int 0])), (a 14, .inl (cy 0, 40, .inl (fun _ => 0))), (a 15, .inr (2, [.ref (a 16), .ref (a 17), .int 0, .int 0])), (a 16, .inl (cy 0, 16, .inl (fun _ => 0))), (a 17, .inl (cy 0, 16, .inl (fun _ => 0))), (a 18, .inr (2, [.ref (a 19), .ref (a 20), .int 0, .int 0])), (a 19, .inl (cy 0, 32, .inl (fun _ => 0))), (a 20, .inl (cy 0, 32, .inl (fun _ => 0)))]) sz) := by
  refine Met.ofW (cc := cX8_take) (maxL := 2) (ret := none) (by decide) rfl ?_
  intro p e s m args below meth c s₁ B hml hv
  obtain ⟨rfl, hsz, hP, hC, hD0⟩ := hv
  have hK := hC.1
  have hx := B.exec
  have hb := B.bytes
  have hr := B.returns
  have hts := atoms_spec (ws := v_X8_take) B.pre
  have hown : s.vm.findClass RX8 = some m.cls := findClass_of_methodNamed B.named
  have hlocks := B.notSynchronized
  subst hsz
  have hD := hD0.self (sz := s.heap.size)
  generalize hAe : va_A ([(a 35, .inr (8, [.int 1, .int 0, .int 0, .ref (a 36), .ref (a 37), .ref (a 38), .ref (a 39), .ref (a 40), .ref (a 41), .ref (a 42), .ref (a 43), .ref (a 44), .ref (a 45), .ref (a 46), .ref (a 47), .ref (a 49), .ref (a 52)])), (a 36, .inl (cy 0, 32, .inl (fun _ => 0))), (a 37, .inl (cy 0, 192, .inl (fun _ => 0))), (a 38, .inl (cy 0, 32, .inl (fun _ => 0))), (a 39, .inl (cy 0, 32, .inl (fun _ => 0))), (a 40, .inl (cy 0, 32, .inl (fun _ => 0))), (a 41, .inl (cy 0, 32, .inl (fun _ => (-1)))), (a 42, .inl (cy 0, 32, .inl (fun _ => 0))), (a 43, .inl (cy 0, 192, .inl (fun _ => (-1)))), (a 44, .inl (cy 0, 128, .inl (fun _ => (-1)))), (a 45, .inl (cy 0, 32, .inl (fun _ => 0))), (a 46, .inl (cy 0, 192, .inl (fun _ => 0))), (a 47, .inr (6, [.ref (a 48), .int 0, .int 0, .int 0])), (a 48, .inl (cy 0, 40, .inl (fun _ => 0))), (a 49, .inr (2, [.ref (a 50), .ref (a 51), .int 0, .int 0])), (a 50, .inl (cy 0, 16, .inl (fun _ => 0))), (a 51, .inl (cy 0, 16, .inl (fun _ => 0))), (a 52, .inr (2, [.ref (a 53), .ref (a 54), .int 0, .int 0])), (a 53, .inl (cy 0, 32, .inl (fun _ => 0))), (a 54, .inl (cy 0, 32, .inl (fun _ => 0))), (a 1, .inr (8, [.int 1, .int 0, .int 0, .ref (a 2), .ref (a 3), .ref (a 4), .ref (a 5), .ref (a 6), .ref (a 7), .ref (a 8), .ref (a 9), .ref (a 10), .ref (a 11), .ref (a 12), .ref (a 13), .ref (a 15), .ref (a 18)])), (a 2, .inl (cy 0, 32, .inl (fun _ => 0))), (a 3, .inl (cy 0, 192, .inl (fun _ => 0))), (a 4, .inl (cy 0, 32, .inl (fun _ => 0))), (a 5, .inl (cy 0, 32, .inl (fun _ => 0))), (a 6, .inl (cy 0, 32, .inl (fun _ => 0))), (a 7, .inl (cy 0, 32, .inl (fun _ => (-1)))), (a 8, .inl (cy 0, 32, .inl (fun _ => 0))), (a 9, .inl (cy 0, 192, .inl (fun _ => (-1)))), (a 10, .inl (cy 0, 128, .inl (fun _ => (-1)))), (a 11, .inl (cy 0, 32, .inl (fun _ => 0))), (a 12, .inl (cy 0, 192, .inl (fun _ => 0))), (a 13, .inr (6, [.ref (a 14), .int 0, .int 0, .int 0])), (a 14, .inl (cy 0, 40, .inl (fun _ => 0))), (a 15, .inr (2, [.ref (a 16), .ref (a 17), .int 0, .int 0])), (a 16, .inl (cy 0, 16, .inl (fun _ => 0))), (a 17, .inl (cy 0, 16, .inl (fun _ => 0))), (a 18, .inr (2, [.ref (a 19), .ref (a 20), .int 0, .int 0])), (a 19, .inl (cy 0, 32, .inl (fun _ => 0))), (a 20, .inl (cy 0, 32, .inl (fun _ => 0)))]) s.heap.size = A at hD ⊢
  have hA : ∀ q : Nat, s.heap.size ≤ q → A q := fun q h => by rw [← hAe]; exact Or.inr h
  have hS : va_S A s.heap s.heap [] := va_S.rf
  have hl := lv_entry ([.ref (a 35), .ref (a 1)]) (n := 2) (Nat.le_of_ble_eq_true rfl)
  rw [lg_entry_eq]
  generalize (lg_sl ([.ref (a 35), .ref (a 1)]) ++ List.replicate (2 - (lg_sl ([.ref (a 35), .ref (a 1)])).length) Slot.unset).toArray = ls at hl ⊢
  have hl : lv_has ls 2 [(0, .ref (a 35)), (1, .ref (a 1))] := hl
  refine lv_aload_n hx hb dX8_take_0 rfl (lv_at hl 0 rfl) ?_
  refine lv_aload_n hx hb dX8_take_1 rfl (lv_at hl 1 rfl) ?_
  refine va_get (D := (dC, dI)) (ci := 8) (v := .int 1) (C := RX8) (T := TX8) (N := 17) hx hb hts i_X8_take_X8 hown hK hP 20 rfl rfl 0 (by decide) (hts _ m_X8_take_0) (fun _ h9 => h9) rfl dX8_take_2 ?_
  refine va_put (D := (dC, dI)) (ci := 8) (v := .int 1) (ty := .int) (C := RX8) (T := TX8) (N := 17) hx hb hts i_X8_take_X8 tyX8 tyX8_ok nmX8 hown hK hP hD hS 0 rfl rfl 0 (by decide) (hts _ m_X8_take_0) (fun _ h9 => h9) rfl (by decide +kernel) rfl rfl (Nat.le_of_ble_eq_true rfl) dX8_take_5 (fun H locs hP hD hS => ?_)
  have hP : va_P (dC, dI) vwCl ([(a 35, .inr (8, [.int 1, .int 0, .int 0, .ref (a 36), .ref (a 37), .ref (a 38), .ref (a 39), .ref (a 40), .ref (a 41), .ref (a 42), .ref (a 43), .ref (a 44), .ref (a 45), .ref (a 46), .ref (a 47), .ref (a 49), .ref (a 52)])), (a 36, .inl (cy 0, 32, .inl (fun _ => 0))), (a 37, .inl (cy 0, 192, .inl (fun _ => 0))), (a 38, .inl (cy 0, 32, .inl (fun _ => 0))), (a 39, .inl (cy 0, 32, .inl (fun _ => 0))), (a 40, .inl (cy 0, 32, .inl (fun _ => 0))), (a 41, .inl (cy 0, 32, .inl (fun _ => (-1)))), (a 42, .inl (cy 0, 32, .inl (fun _ => 0))), (a 43, .inl (cy 0, 192, .inl (fun _ => (-1)))), (a 44, .inl (cy 0, 128, .inl (fun _ => (-1)))), (a 45, .inl (cy 0, 32, .inl (fun _ => 0))), (a 46, .inl (cy 0, 192, .inl (fun _ => 0))), (a 47, .inr (6, [.ref (a 48), .int 0, .int 0, .int 0])), (a 48, .inl (cy 0, 40, .inl (fun _ => 0))), (a 49, .inr (2, [.ref (a 50), .ref (a 51), .int 0, .int 0])), (a 50, .inl (cy 0, 16, .inl (fun _ => 0))), (a 51, .inl (cy 0, 16, .inl (fun _ => 0))), (a 52, .inr (2, [.ref (a 53), .ref (a 54), .int 0, .int 0])), (a 53, .inl (cy 0, 32, .inl (fun _ => 0))), (a 54, .inl (cy 0, 32, .inl (fun _ => 0))), (a 1, .inr (8, [.int 1, .int 0, .int 0, .ref (a 2), .ref (a 3), .ref (a 4), .ref (a 5), .ref (a 6), .ref (a 7), .ref (a 8), .ref (a 9), .ref (a 10), .ref (a 11), .ref (a 12), .ref (a 13), .ref (a 15), .ref (a 18)])), (a 2, .inl (cy 0, 32, .inl (fun _ => 0))), (a 3, .inl (cy 0, 192, .inl (fun _ => 0))), (a 4, .inl (cy 0, 32, .inl (fun _ => 0))), (a 5, .inl (cy 0, 32, .inl (fun _ => 0))), (a 6, .inl (cy 0, 32, .inl (fun _ => 0))), (a 7, .inl (cy 0, 32, .inl (fun _ => (-1)))), (a 8, .inl (cy 0, 32, .inl (fun _ => 0))), (a 9, .inl (cy 0, 192, .inl (fun _ => (-1)))), (a 10, .inl (cy 0, 128, .inl (fun _ => (-1)))), (a 11, .inl (cy 0, 32, .inl (fun _ => 0))), (a 12, .inl (cy 0, 192, .inl (fun _ => 0))), (a 13, .inr (6, [.ref (a 14), .int 0, .int 0, .int 0])), (a 14, .inl (cy 0, 40, .inl (fun _ => 0))), (a 15, .inr (2, [.ref (a 16), .ref (a 17), .int 0, .int 0])), (a 16, .inl (cy 0, 16, .inl (fun _ => 0))), (a 17, .inl (cy 0, 16, .inl (fun _ => 0))), (a 18, .inr (2, [.ref (a 19), .ref (a 20), .int 0, .int 0])), (a 19, .inl (cy 0, 32, .inl (fun _ => 0))), (a 20, .inl (cy 0, 32, .inl (fun _ => 0)))]) H := hP
  have hD : va_D A ([(a 35, .inr (8, [.int 1, .int 0, .int 0, .ref (a 36), .ref (a 37), .ref (a 38), .ref (a 39), .ref (a 40), .ref (a 41), .ref (a 42), .ref (a 43), .ref (a 44), .ref (a 45), .ref (a 46), .ref (a 47), .ref (a 49), .ref (a 52)])), (a 36, .inl (cy 0, 32, .inl (fun _ => 0))), (a 37, .inl (cy 0, 192, .inl (fun _ => 0))), (a 38, .inl (cy 0, 32, .inl (fun _ => 0))), (a 39, .inl (cy 0, 32, .inl (fun _ => 0))), (a 40, .inl (cy 0, 32, .inl (fun _ => 0))), (a 41, .inl (cy 0, 32, .inl (fun _ => (-1)))), (a 42, .inl (cy 0, 32, .inl (fun _ => 0))), (a 43, .inl (cy 0, 192, .inl (fun _ => (-1)))), (a 44, .inl (cy 0, 128, .inl (fun _ => (-1)))), (a 45, .inl (cy 0, 32, .inl (fun _ => 0))), (a 46, .inl (cy 0, 192, .inl (fun _ => 0))), (a 47, .inr (6, [.ref (a 48), .int 0, .int 0, .int 0])), (a 48, .inl (cy 0, 40, .inl (fun _ => 0))), (a 49, .inr (2, [.ref (a 50), .ref (a 51), .int 0, .int 0])), (a 50, .inl (cy 0, 16, .inl (fun _ => 0))), (a 51, .inl (cy 0, 16, .inl (fun _ => 0))), (a 52, .inr (2, [.ref (a 53), .ref (a 54), .int 0, .int 0])), (a 53, .inl (cy 0, 32, .inl (fun _ => 0))), (a 54, .inl (cy 0, 32, .inl (fun _ => 0))), (a 1, .inr (8, [.int 1, .int 0, .int 0, .ref (a 2), .ref (a 3), .ref (a 4), .ref (a 5), .ref (a 6), .ref (a 7), .ref (a 8), .ref (a 9), .ref (a 10), .ref (a 11), .ref (a 12), .ref (a 13), .ref (a 15), .ref (a 18)])), (a 2, .inl (cy 0, 32, .inl (fun _ => 0))), (a 3, .inl (cy 0, 192, .inl (fun _ => 0))), (a 4, .inl (cy 0, 32, .inl (fun _ => 0))), (a 5, .inl (cy 0, 32, .inl (fun _ => 0))), (a 6, .inl (cy 0, 32, .inl (fun _ => 0))), (a 7, .inl (cy 0, 32, .inl (fun _ => (-1)))), (a 8, .inl (cy 0, 32, .inl (fun _ => 0))), (a 9, .inl (cy 0, 192, .inl (fun _ => (-1)))), (a 10, .inl (cy 0, 128, .inl (fun _ => (-1)))), (a 11, .inl (cy 0, 32, .inl (fun _ => 0))), (a 12, .inl (cy 0, 192, .inl (fun _ => 0))), (a 13, .inr (6, [.ref (a 14), .int 0, .int 0, .int 0])), (a 14, .inl (cy 0, 40, .inl (fun _ => 0))), (a 15, .inr (2, [.ref (a 16), .ref (a 17), .int 0, .int 0])), (a 16, .inl (cy 0, 16, .inl (fun _ => 0))), (a 17, .inl (cy 0, 16, .inl (fun _ => 0))), (a 18, .inr (2, [.ref (a 19), .ref (a 20), .int 0, .int 0])), (a 19, .inl (cy 0, 32, .inl (fun _ => 0))), (a 20, .inl (cy 0, 32, .inl (fun _ => 0)))]) := hD
  refine lv_aload_n hx hb dX8_take_8 rfl (lv_at hl 0 rfl) ?_
  refine lv_aload_n hx hb dX8_take_9 rfl (lv_at hl 1 rfl) ?_
  refine va_get (D := (dC, dI)) (ci := 8) (v := .int 0) (C := RX8) (T := TX8) (N := 17) hx hb hts i_X8_take_X8 hown hK hP 20 rfl rfl 1 (by decide) (hts _ m_X8_take_1) (fun _ h9 => h9) rfl dX8_take_10 ?_
  refine va_put (D := (dC, dI)) (ci := 8) (v := .int 0) (ty := .int) (C := RX8) (T := TX8) (N := 17) hx hb hts i_X8_take_X8 tyX8 tyX8_ok nmX8 hown hK hP hD hS 0 rfl rfl 1 (by decide) (hts _ m_X8_take_1) (fun _ h9 => h9) rfl (by decide +kernel) rfl rfl (Nat.le_of_ble_eq_true rfl) dX8_take_13 (fun H locs hP hD hS => ?_)
  have hP : va_P (dC, dI) vwCl ([(a 35, .inr (8, [.int 1, .int 0, .int 0, .ref (a 36), .ref (a 37), .ref (a 38), .ref (a 39), .ref (a 40), .ref (a 41), .ref (a 42), .ref (a 43), .ref (a 44), .ref (a 45), .ref (a 46), .ref (a 47), .ref (a 49), .ref (a 52)])), (a 36, .inl (cy 0, 32, .inl (fun _ => 0))), (a 37, .inl (cy 0, 192, .inl (fun _ => 0))), (a 38, .inl (cy 0, 32, .inl (fun _ => 0))), (a 39, .inl (cy 0, 32, .inl (fun _ => 0))), (a 40, .inl (cy 0, 32, .inl (fun _ => 0))), (a 41, .inl (cy 0, 32, .inl (fun _ => (-1)))), (a 42, .inl (cy 0, 32, .inl (fun _ => 0))), (a 43, .inl (cy 0, 192, .inl (fun _ => (-1)))), (a 44, .inl (cy 0, 128, .inl (fun _ => (-1)))), (a 45, .inl (cy 0, 32, .inl (fun _ => 0))), (a 46, .inl (cy 0, 192, .inl (fun _ => 0))), (a 47, .inr (6, [.ref (a 48), .int 0, .int 0, .int 0])), (a 48, .inl (cy 0, 40, .inl (fun _ => 0))), (a 49, .inr (2, [.ref (a 50), .ref (a 51), .int 0, .int 0])), (a 50, .inl (cy 0, 16, .inl (fun _ => 0))), (a 51, .inl (cy 0, 16, .inl (fun _ => 0))), (a 52, .inr (2, [.ref (a 53), .ref (a 54), .int 0, .int 0])), (a 53, .inl (cy 0, 32, .inl (fun _ => 0))), (a 54, .inl (cy 0, 32, .inl (fun _ => 0))), (a 1, .inr (8, [.int 1, .int 0, .int 0, .ref (a 2), .ref (a 3), .ref (a 4), .ref (a 5), .ref (a 6), .ref (a 7), .ref (a 8), .ref (a 9), .ref (a 10), .ref (a 11), .ref (a 12), .ref (a 13), .ref (a 15), .ref (a 18)])), (a 2, .inl (cy 0, 32, .inl (fun _ => 0))), (a 3, .inl (cy 0, 192, .inl (fun _ => 0))), (a 4, .inl (cy 0, 32, .inl (fun _ => 0))), (a 5, .inl (cy 0, 32, .inl (fun _ => 0))), (a 6, .inl (cy 0, 32, .inl (fun _ => 0))), (a 7, .inl (cy 0, 32, .inl (fun _ => (-1)))), (a 8, .inl (cy 0, 32, .inl (fun _ => 0))), (a 9, .inl (cy 0, 192, .inl (fun _ => (-1)))), (a 10, .inl (cy 0, 128, .inl (fun _ => (-1)))), (a 11, .inl (cy 0, 32, .inl (fun _ => 0))), (a 12, .inl (cy 0, 192, .inl (fun _ => 0))), (a 13, .inr (6, [.ref (a 14), .int 0, .int 0, .int 0])), (a 14, .inl (cy 0, 40, .inl (fun _ => 0))), (a 15, .inr (2, [.ref (a 16), .ref (a 17), .int 0, .int 0])), (a 16, .inl (cy 0, 16, .inl (fun _ => 0))), (a 17, .inl (cy 0, 16, .inl (fun _ => 0))), (a 18, .inr (2, [.ref (a 19), .ref (a 20), .int 0, .int 0])), (a 19, .inl (cy 0, 32, .inl (fun _ => 0))), (a 20, .inl (cy 0, 32, .inl (fun _ => 0)))]) H := hP
  have hD : va_D A ([(a 35, .inr (8, [.int 1, .int 0, .int 0, .ref (a 36), .ref (a 37), .ref (a 38), .ref (a 39), .ref (a 40), .ref (a 41), .ref (a 42), .ref (a 43), .ref (a 44), .ref (a 45), .ref (a 46), .ref (a 47), .ref (a 49), .ref (a 52)])), (a 36, .inl (cy 0, 32, .inl (fun _ => 0))), (a 37, .inl (cy 0, 192, .inl (fun _ => 0))), (a 38, .inl (cy 0, 32, .inl (fun _ => 0))), (a 39, .inl (cy 0, 32, .inl (fun _ => 0))), (a 40, .inl (cy 0, 32, .inl (fun _ => 0))), (a 41, .inl (cy 0, 32, .inl (fun _ => (-1)))), (a 42, .inl (cy 0, 32, .inl (fun _ => 0))), (a 43, .inl (cy 0, 192, .inl (fun _ => (-1)))), (a 44, .inl (cy 0, 128, .inl (fun _ => (-1)))), (a 45, .inl (cy 0, 32, .inl (fun _ => 0))), (a 46, .inl (cy 0, 192, .inl (fun _ => 0))), (a 47, .inr (6, [.ref (a 48), .int 0, .int 0, .int 0])), (a 48, .inl (cy 0, 40, .inl (fun _ => 0))), (a 49, .inr (2, [.ref (a 50), .ref (a 51), .int 0, .int 0])), (a 50, .inl (cy 0, 16, .inl (fun _ => 0))), (a 51, .inl (cy 0, 16, .inl (fun _ => 0))), (a 52, .inr (2, [.ref (a 53), .ref (a 54), .int 0, .int 0])), (a 53, .inl (cy 0, 32, .inl (fun _ => 0))), (a 54, .inl (cy 0, 32, .inl (fun _ => 0))), (a 1, .inr (8, [.int 1, .int 0, .int 0, .ref (a 2), .ref (a 3), .ref (a 4), .ref (a 5), .ref (a 6), .ref (a 7), .ref (a 8), .ref (a 9), .ref (a 10), .ref (a 11), .ref (a 12), .ref (a 13), .ref (a 15), .ref (a 18)])), (a 2, .inl (cy 0, 32, .inl (fun _ => 0))), (a 3, .inl (cy 0, 192, .inl (fun _ => 0))), (a 4, .inl (cy 0, 32, .inl (fun _ => 0))), (a 5, .inl (cy 0, 32, .inl (fun _ => 0))), (a 6, .inl (cy 0, 32, .inl (fun _ => 0))), (a 7, .inl (cy 0, 32, .inl (fun _ => (-1)))), (a 8, .inl (cy 0, 32, .inl (fun _ => 0))), (a 9, .inl (cy 0, 192, .inl (fun _ => (-1)))), (a 10, .inl (cy 0, 128, .inl (fun _ => (-1)))), (a 11, .inl (cy 0, 32, .inl (fun _ => 0))), (a 12, .inl (cy 0, 192, .inl (fun _ => 0))), (a 13, .inr (6, [.ref (a 14), .int 0, .int 0, .int 0])), (a 14, .inl (cy 0, 40, .inl (fun _ => 0))), (a 15, .inr (2, [.ref (a 16), .ref (a 17), .int 0, .int 0])), (a 16, .inl (cy 0, 16, .inl (fun _ => 0))), (a 17, .inl (cy 0, 16, .inl (fun _ => 0))), (a 18, .inr (2, [.ref (a 19), .ref (a 20), .int 0, .int 0])), (a 19, .inl (cy 0, 32, .inl (fun _ => 0))), (a 20, .inl (cy 0, 32, .inl (fun _ => 0)))]) := hD
  refine lv_aload_n hx hb dX8_take_16 rfl (lv_at hl 0 rfl) ?_
  refine lv_aload_n hx hb dX8_take_17 rfl (lv_at hl 1 rfl) ?_
  refine va_get (D := (dC, dI)) (ci := 8) (v := .int 0) (C := RX8) (T := TX8) (N := 17) hx hb hts i_X8_take_X8 hown hK hP 20 rfl rfl 2 (by decide) (hts _ m_X8_take_2) (fun _ h9 => h9) rfl dX8_take_18 ?_
  refine va_put (D := (dC, dI)) (ci := 8) (v := .int 0) (ty := .int) (C := RX8) (T := TX8) (N := 17) hx hb hts i_X8_take_X8 tyX8 tyX8_ok nmX8 hown hK hP hD hS 0 rfl rfl 2 (by decide) (hts _ m_X8_take_2) (fun _ h9 => h9) rfl (by decide +kernel) rfl rfl (Nat.le_of_ble_eq_true rfl) dX8_take_21 (fun H locs hP hD hS => ?_)
  have hP : va_P (dC, dI) vwCl ([(a 35, .inr (8, [.int 1, .int 0, .int 0, .ref (a 36), .ref (a 37), .ref (a 38), .ref (a 39), .ref (a 40), .ref (a 41), .ref (a 42), .ref (a 43), .ref (a 44), .ref (a 45), .ref (a 46), .ref (a 47), .ref (a 49), .ref (a 52)])), (a 36, .inl (cy 0, 32, .inl (fun _ => 0))), (a 37, .inl (cy 0, 192, .inl (fun _ => 0))), (a 38, .inl (cy 0, 32, .inl (fun _ => 0))), (a 39, .inl (cy 0, 32, .inl (fun _ => 0))), (a 40, .inl (cy 0, 32, .inl (fun _ => 0))), (a 41, .inl (cy 0, 32, .inl (fun _ => (-1)))), (a 42, .inl (cy 0, 32, .inl (fun _ => 0))), (a 43, .inl (cy 0, 192, .inl (fun _ => (-1)))), (a 44, .inl (cy 0, 128, .inl (fun _ => (-1)))), (a 45, .inl (cy 0, 32, .inl (fun _ => 0))), (a 46, .inl (cy 0, 192, .inl (fun _ => 0))), (a 47, .inr (6, [.ref (a 48), .int 0, .int 0, .int 0])), (a 48, .inl (cy 0, 40, .inl (fun _ => 0))), (a 49, .inr (2, [.ref (a 50), .ref (a 51), .int 0, .int 0])), (a 50, .inl (cy 0, 16, .inl (fun _ => 0))), (a 51, .inl (cy 0, 16, .inl (fun _ => 0))), (a 52, .inr (2, [.ref (a 53), .ref (a 54), .int 0, .int 0])), (a 53, .inl (cy 0, 32, .inl (fun _ => 0))), (a 54, .inl (cy 0, 32, .inl (fun _ => 0))), (a 1, .inr (8, [.int 1, .int 0, .int 0, .ref (a 2), .ref (a 3), .ref (a 4), .ref (a 5), .ref (a 6), .ref (a 7), .ref (a 8), .ref (a 9), .ref (a 10), .ref (a 11), .ref (a 12), .ref (a 13), .ref (a 15), .ref (a 18)])), (a 2, .inl (cy 0, 32, .inl (fun _ => 0))), (a 3, .inl (cy 0, 192, .inl (fun _ => 0))), (a 4, .inl (cy 0, 32, .inl (fun _ => 0))), (a 5, .inl (cy 0, 32, .inl (fun _ => 0))), (a 6, .inl (cy 0, 32, .inl (fun _ => 0))), (a 7, .inl (cy 0, 32, .inl (fun _ => (-1)))), (a 8, .inl (cy 0, 32, .inl (fun _ => 0))), (a 9, .inl (cy 0, 192, .inl (fun _ => (-1)))), (a 10, .inl (cy 0, 128, .inl (fun _ => (-1)))), (a 11, .inl (cy 0, 32, .inl (fun _ => 0))), (a 12, .inl (cy 0, 192, .inl (fun _ => 0))), (a 13, .inr (6, [.ref (a 14), .int 0, .int 0, .int 0])), (a 14, .inl (cy 0, 40, .inl (fun _ => 0))), (a 15, .inr (2, [.ref (a 16), .ref (a 17), .int 0, .int 0])), (a 16, .inl (cy 0, 16, .inl (fun _ => 0))), (a 17, .inl (cy 0, 16, .inl (fun _ => 0))), (a 18, .inr (2, [.ref (a 19), .ref (a 20), .int 0, .int 0])), (a 19, .inl (cy 0, 32, .inl (fun _ => 0))), (a 20, .inl (cy 0, 32, .inl (fun _ => 0)))]) H := hP
  have hD : va_D A ([(a 35, .inr (8, [.int 1, .int 0, .int 0, .ref (a 36), .ref (a 37), .ref (a 38), .ref (a 39), .ref (a 40), .ref (a 41), .ref (a 42), .ref (a 43), .ref (a 44), .ref (a 45), .ref (a 46), .ref (a 47), .ref (a 49), .ref (a 52)])), (a 36, .inl (cy 0, 32, .inl (fun _ => 0))), (a 37, .inl (cy 0, 192, .inl (fun _ => 0))), (a 38, .inl (cy 0, 32, .inl (fun _ => 0))), (a 39, .inl (cy 0, 32, .inl (fun _ => 0))), (a 40, .inl (cy 0, 32, .inl (fun _ => 0))), (a 41, .inl (cy 0, 32, .inl (fun _ => (-1)))), (a 42, .inl (cy 0, 32, .inl (fun _ => 0))), (a 43, .inl (cy 0, 192, .inl (fun _ => (-1)))), (a 44, .inl (cy 0, 128, .inl (fun _ => (-1)))), (a 45, .inl (cy 0, 32, .inl (fun _ => 0))), (a 46, .inl (cy 0, 192, .inl (fun _ => 0))), (a 47, .inr (6, [.ref (a 48), .int 0, .int 0, .int 0])), (a 48, .inl (cy 0, 40, .inl (fun _ => 0))), (a 49, .inr (2, [.ref (a 50), .ref (a 51), .int 0, .int 0])), (a 50, .inl (cy 0, 16, .inl (fun _ => 0))), (a 51, .inl (cy 0, 16, .inl (fun _ => 0))), (a 52, .inr (2, [.ref (a 53), .ref (a 54), .int 0, .int 0])), (a 53, .inl (cy 0, 32, .inl (fun _ => 0))), (a 54, .inl (cy 0, 32, .inl (fun _ => 0))), (a 1, .inr (8, [.int 1, .int 0, .int 0, .ref (a 2), .ref (a 3), .ref (a 4), .ref (a 5), .ref (a 6), .ref (a 7), .ref (a 8), .ref (a 9), .ref (a 10), .ref (a 11), .ref (a 12), .ref (a 13), .ref (a 15), .ref (a 18)])), (a 2, .inl (cy 0, 32, .inl (fun _ => 0))), (a 3, .inl (cy 0, 192, .inl (fun _ => 0))), (a 4, .inl (cy 0, 32, .inl (fun _ => 0))), (a 5, .inl (cy 0, 32, .inl (fun _ => 0))), (a 6, .inl (cy 0, 32, .inl (fun _ => 0))), (a 7, .inl (cy 0, 32, .inl (fun _ => (-1)))), (a 8, .inl (cy 0, 32, .inl (fun _ => 0))), (a 9, .inl (cy 0, 192, .inl (fun _ => (-1)))), (a 10, .inl (cy 0, 128, .inl (fun _ => (-1)))), (a 11, .inl (cy 0, 32, .inl (fun _ => 0))), (a 12, .inl (cy 0, 192, .inl (fun _ => 0))), (a 13, .inr (6, [.ref (a 14), .int 0, .int 0, .int 0])), (a 14, .inl (cy 0, 40, .inl (fun _ => 0))), (a 15, .inr (2, [.ref (a 16), .ref (a 17), .int 0, .int 0])), (a 16, .inl (cy 0, 16, .inl (fun _ => 0))), (a 17, .inl (cy 0, 16, .inl (fun _ => 0))), (a 18, .inr (2, [.ref (a 19), .ref (a 20), .int 0, .int 0])), (a 19, .inl (cy 0, 32, .inl (fun _ => 0))), (a 20, .inl (cy 0, 32, .inl (fun _ => 0)))]) := hD
  refine lv_aload_n hx hb dX8_take_24 rfl (lv_at hl 1 rfl) ?_
  refine va_get (D := (dC, dI)) (ci := 8) (v := .ref (a 2)) (C := RX8) (T := TX8) (N := 17) hx hb hts i_X8_take_X8 hown hK hP 20 rfl rfl 3 (by decide) (hts _ m_X8_take_3) (fun _ h9 => h9) rfl dX8_take_25 ?_
  refine lv_iconst (v := 0) hx hb dX8_take_28 (by decide) ?_
  refine lv_aload_n hx hb dX8_take_29 rfl (lv_at hl 0 rfl) ?_
  refine va_get (D := (dC, dI)) (ci := 8) (v := .ref (a 36)) (C := RX8) (T := TX8) (N := 17) hx hb hts i_X8_take_X8 hown hK hP 0 rfl rfl 3 (by decide) (hts _ m_X8_take_3) (fun _ h9 => h9) rfl dX8_take_30 ?_
  refine lv_iconst (v := 0) hx hb dX8_take_33 (by decide) ?_
  refine lv_bipush (v := 32) hx hb dX8_take_34 (by decide) ?_
  refine va_copyi hx hb (hml.trans hl.1.symm) hown (hts _ m_X8_take_4) (hts _ m_X8_take_5) (hts _ m_X8_take_6) (hts _ m_X8_take_7) hK hP hD hS 21 1 0 0 rfl rfl rfl rfl rfl (by decide) (by decide) (by decide) (by decide) (by decide) (fun _ _ => rfl) (Nat.le_of_ble_eq_true rfl) (Nat.le_of_ble_eq_true rfl) dX8_take_36 (fun H locs hP hD hS => ?_)
  refine lv_aload_n hx hb dX8_take_39 rfl (lv_at hl 1 rfl) ?_
  refine va_get (D := (dC, dI)) (ci := 8) (v := .ref (a 3)) (C := RX8) (T := TX8) (N := 17) hx hb hts i_X8_take_X8 hown hK hP 20 rfl rfl 4 (by decide) (hts _ m_X8_take_8) (fun _ h9 => h9) rfl dX8_take_40 ?_
  refine lv_iconst (v := 0) hx hb dX8_take_43 (by decide) ?_
  refine lv_aload_n hx hb dX8_take_44 rfl (lv_at hl 0 rfl) ?_
  refine va_get (D := (dC, dI)) (ci := 8) (v := .ref (a 37)) (C := RX8) (T := TX8) (N := 17) hx hb hts i_X8_take_X8 hown hK hP 0 rfl rfl 4 (by decide) (hts _ m_X8_take_8) (fun _ h9 => h9) rfl dX8_take_45 ?_
  refine lv_iconst (v := 0) hx hb dX8_take_48 (by decide) ?_
  refine lv_sipush (v := 192) hx hb dX8_take_49 (by decide) ?_
  refine va_copyi hx hb (hml.trans hl.1.symm) hown (hts _ m_X8_take_4) (hts _ m_X8_take_5) (hts _ m_X8_take_6) (hts _ m_X8_take_7) hK hP hD hS 22 2 0 0 rfl rfl rfl rfl rfl (by decide) (by decide) (by decide) (by decide) (by decide) (fun _ _ => rfl) (Nat.le_of_ble_eq_true rfl) (Nat.le_of_ble_eq_true rfl) dX8_take_52 (fun H locs hP hD hS => ?_)
  refine lv_aload_n hx hb dX8_take_55 rfl (lv_at hl 1 rfl) ?_
  refine va_get (D := (dC, dI)) (ci := 8) (v := .ref (a 4)) (C := RX8) (T := TX8) (N := 17) hx hb hts i_X8_take_X8 hown hK hP 20 rfl rfl 5 (by decide) (hts _ m_X8_take_9) (fun _ h9 => h9) rfl dX8_take_56 ?_
  refine lv_iconst (v := 0) hx hb dX8_take_59 (by decide) ?_
  refine lv_aload_n hx hb dX8_take_60 rfl (lv_at hl 0 rfl) ?_
  refine va_get (D := (dC, dI)) (ci := 8) (v := .ref (a 38)) (C := RX8) (T := TX8) (N := 17) hx hb hts i_X8_take_X8 hown hK hP 0 rfl rfl 5 (by decide) (hts _ m_X8_take_9) (fun _ h9 => h9) rfl dX8_take_61 ?_
  refine lv_iconst (v := 0) hx hb dX8_take_64 (by decide) ?_
  refine lv_bipush (v := 32) hx hb dX8_take_65 (by decide) ?_
  refine va_copyi hx hb (hml.trans hl.1.symm) hown (hts _ m_X8_take_4) (hts _ m_X8_take_5) (hts _ m_X8_take_6) (hts _ m_X8_take_7) hK hP hD hS 23 3 0 0 rfl rfl rfl rfl rfl (by decide) (by decide) (by decide) (by decide) (by decide) (fun _ _ => rfl) (Nat.le_of_ble_eq_true rfl) (Nat.le_of_ble_eq_true rfl) dX8_take_67 (fun H locs hP hD hS => ?_)
  refine lv_aload_n hx hb dX8_take_70 rfl (lv_at hl 1 rfl) ?_
  refine va_get (D := (dC, dI)) (ci := 8) (v := .ref (a 5)) (C := RX8) (T := TX8) (N := 17) hx hb hts i_X8_take_X8 hown hK hP 20 rfl rfl 6 (by decide) (hts _ m_X8_take_10) (fun _ h9 => h9) rfl dX8_take_71 ?_
  refine lv_iconst (v := 0) hx hb dX8_take_74 (by decide) ?_
  refine lv_aload_n hx hb dX8_take_75 rfl (lv_at hl 0 rfl) ?_
  refine va_get (D := (dC, dI)) (ci := 8) (v := .ref (a 39)) (C := RX8) (T := TX8) (N := 17) hx hb hts i_X8_take_X8 hown hK hP 0 rfl rfl 6 (by decide) (hts _ m_X8_take_10) (fun _ h9 => h9) rfl dX8_take_76 ?_
  refine lv_iconst (v := 0) hx hb dX8_take_79 (by decide) ?_
  refine lv_bipush (v := 32) hx hb dX8_take_80 (by decide) ?_
  refine va_copyi hx hb (hml.trans hl.1.symm) hown (hts _ m_X8_take_4) (hts _ m_X8_take_5) (hts _ m_X8_take_6) (hts _ m_X8_take_7) hK hP hD hS 24 4 0 0 rfl rfl rfl rfl rfl (by decide) (by decide) (by decide) (by decide) (by decide) (fun _ _ => rfl) (Nat.le_of_ble_eq_true rfl) (Nat.le_of_ble_eq_true rfl) dX8_take_82 (fun H locs hP hD hS => ?_)
  refine lv_aload_n hx hb dX8_take_85 rfl (lv_at hl 1 rfl) ?_
  refine va_get (D := (dC, dI)) (ci := 8) (v := .ref (a 6)) (C := RX8) (T := TX8) (N := 17) hx hb hts i_X8_take_X8 hown hK hP 20 rfl rfl 7 (by decide) (hts _ m_X8_take_11) (fun _ h9 => h9) rfl dX8_take_86 ?_
  refine lv_iconst (v := 0) hx hb dX8_take_89 (by decide) ?_
  refine lv_aload_n hx hb dX8_take_90 rfl (lv_at hl 0 rfl) ?_
  refine va_get (D := (dC, dI)) (ci := 8) (v := .ref (a 40)) (C := RX8) (T := TX8) (N := 17) hx hb hts i_X8_take_X8 hown hK hP 0 rfl rfl 7 (by decide) (hts _ m_X8_take_11) (fun _ h9 => h9) rfl dX8_take_91 ?_
  refine lv_iconst (v := 0) hx hb dX8_take_94 (by decide) ?_
  refine lv_bipush (v := 32) hx hb dX8_take_95 (by decide) ?_
  refine va_copyi hx hb (hml.trans hl.1.symm) hown (hts _ m_X8_take_4) (hts _ m_X8_take_5) (hts _ m_X8_take_6) (hts _ m_X8_take_7) hK hP hD hS 25 5 0 0 rfl rfl rfl rfl rfl (by decide) (by decide) (by decide) (by decide) (by decide) (fun _ _ => rfl) (Nat.le_of_ble_eq_true rfl) (Nat.le_of_ble_eq_true rfl) dX8_take_97 (fun H locs hP hD hS => ?_)
  refine lv_aload_n hx hb dX8_take_100 rfl (lv_at hl 1 rfl) ?_
  refine va_get (D := (dC, dI)) (ci := 8) (v := .ref (a 7)) (C := RX8) (T := TX8) (N := 17) hx hb hts i_X8_take_X8 hown hK hP 20 rfl rfl 8 (by decide) (hts _ m_X8_take_12) (fun _ h9 => h9) rfl dX8_take_101 ?_
  refine lv_iconst (v := 0) hx hb dX8_take_104 (by decide) ?_
  refine lv_aload_n hx hb dX8_take_105 rfl (lv_at hl 0 rfl) ?_
  refine va_get (D := (dC, dI)) (ci := 8) (v := .ref (a 41)) (C := RX8) (T := TX8) (N := 17) hx hb hts i_X8_take_X8 hown hK hP 0 rfl rfl 8 (by decide) (hts _ m_X8_take_12) (fun _ h9 => h9) rfl dX8_take_106 ?_
  refine lv_iconst (v := 0) hx hb dX8_take_109 (by decide) ?_
  refine lv_bipush (v := 32) hx hb dX8_take_110 (by decide) ?_
  refine va_copyi hx hb (hml.trans hl.1.symm) hown (hts _ m_X8_take_4) (hts _ m_X8_take_5) (hts _ m_X8_take_6) (hts _ m_X8_take_7) hK hP hD hS 26 6 0 0 rfl rfl rfl rfl rfl (by decide) (by decide) (by decide) (by decide) (by decide) (fun _ _ => rfl) (Nat.le_of_ble_eq_true rfl) (Nat.le_of_ble_eq_true rfl) dX8_take_112 (fun H locs hP hD hS => ?_)
  refine lv_aload_n hx hb dX8_take_115 rfl (lv_at hl 1 rfl) ?_
  refine va_get (D := (dC, dI)) (ci := 8) (v := .ref (a 8)) (C := RX8) (T := TX8) (N := 17) hx hb hts i_X8_take_X8 hown hK hP 20 rfl rfl 9 (by decide) (hts _ m_X8_take_13) (fun _ h9 => h9) rfl dX8_take_116 ?_
  refine lv_iconst (v := 0) hx hb dX8_take_119 (by decide) ?_
  refine lv_aload_n hx hb dX8_take_120 rfl (lv_at hl 0 rfl) ?_
  refine va_get (D := (dC, dI)) (ci := 8) (v := .ref (a 42)) (C := RX8) (T := TX8) (N := 17) hx hb hts i_X8_take_X8 hown hK hP 0 rfl rfl 9 (by decide) (hts _ m_X8_take_13) (fun _ h9 => h9) rfl dX8_take_121 ?_
  refine lv_iconst (v := 0) hx hb dX8_take_124 (by decide) ?_
  refine lv_bipush (v := 32) hx hb dX8_take_125 (by decide) ?_
  refine va_copyi hx hb (hml.trans hl.1.symm) hown (hts _ m_X8_take_4) (hts _ m_X8_take_5) (hts _ m_X8_take_6) (hts _ m_X8_take_7) hK hP hD hS 27 7 0 0 rfl rfl rfl rfl rfl (by decide) (by decide) (by decide) (by decide) (by decide) (fun _ _ => rfl) (Nat.le_of_ble_eq_true rfl) (Nat.le_of_ble_eq_true rfl) dX8_take_127 (fun H locs hP hD hS => ?_)
  refine lv_aload_n hx hb dX8_take_130 rfl (lv_at hl 1 rfl) ?_
  refine va_get (D := (dC, dI)) (ci := 8) (v := .ref (a 9)) (C := RX8) (T := TX8) (N := 17) hx hb hts i_X8_take_X8 hown hK hP 20 rfl rfl 10 (by decide) (hts _ m_X8_take_14) (fun _ h9 => h9) rfl dX8_take_131 ?_
  refine lv_iconst (v := 0) hx hb dX8_take_134 (by decide) ?_
  refine lv_aload_n hx hb dX8_take_135 rfl (lv_at hl 0 rfl) ?_
  refine va_get (D := (dC, dI)) (ci := 8) (v := .ref (a 43)) (C := RX8) (T := TX8) (N := 17) hx hb hts i_X8_take_X8 hown hK hP 0 rfl rfl 10 (by decide) (hts _ m_X8_take_14) (fun _ h9 => h9) rfl dX8_take_136 ?_
  refine lv_iconst (v := 0) hx hb dX8_take_139 (by decide) ?_
  refine lv_sipush (v := 192) hx hb dX8_take_140 (by decide) ?_
  refine va_copyi hx hb (hml.trans hl.1.symm) hown (hts _ m_X8_take_4) (hts _ m_X8_take_5) (hts _ m_X8_take_6) (hts _ m_X8_take_7) hK hP hD hS 28 8 0 0 rfl rfl rfl rfl rfl (by decide) (by decide) (by decide) (by decide) (by decide) (fun _ _ => rfl) (Nat.le_of_ble_eq_true rfl) (Nat.le_of_ble_eq_true rfl) dX8_take_143 (fun H locs hP hD hS => ?_)
  refine lv_aload_n hx hb dX8_take_146 rfl (lv_at hl 1 rfl) ?_
  refine va_get (D := (dC, dI)) (ci := 8) (v := .ref (a 10)) (C := RX8) (T := TX8) (N := 17) hx hb hts i_X8_take_X8 hown hK hP 20 rfl rfl 11 (by decide) (hts _ m_X8_take_15) (fun _ h9 => h9) rfl dX8_take_147 ?_
  refine lv_iconst (v := 0) hx hb dX8_take_150 (by decide) ?_
  refine lv_aload_n hx hb dX8_take_151 rfl (lv_at hl 0 rfl) ?_
  refine va_get (D := (dC, dI)) (ci := 8) (v := .ref (a 44)) (C := RX8) (T := TX8) (N := 17) hx hb hts i_X8_take_X8 hown hK hP 0 rfl rfl 11 (by decide) (hts _ m_X8_take_15) (fun _ h9 => h9) rfl dX8_take_152 ?_
  refine lv_iconst (v := 0) hx hb dX8_take_155 (by decide) ?_
  refine lv_sipush (v := 128) hx hb dX8_take_156 (by decide) ?_
  refine va_copyi hx hb (hml.trans hl.1.symm) hown (hts _ m_X8_take_4) (hts _ m_X8_take_5) (hts _ m_X8_take_6) (hts _ m_X8_take_7) hK hP hD hS 29 9 0 0 rfl rfl rfl rfl rfl (by decide) (by decide) (by decide) (by decide) (by decide) (fun _ _ => rfl) (Nat.le_of_ble_eq_true rfl) (Nat.le_of_ble_eq_true rfl) dX8_take_159 (fun H locs hP hD hS => ?_)
  refine lv_aload_n hx hb dX8_take_162 rfl (lv_at hl 1 rfl) ?_
  refine va_get (D := (dC, dI)) (ci := 8) (v := .ref (a 11)) (C := RX8) (T := TX8) (N := 17) hx hb hts i_X8_take_X8 hown hK hP 20 rfl rfl 12 (by decide) (hts _ m_X8_take_16) (fun _ h9 => h9) rfl dX8_take_163 ?_
  refine lv_iconst (v := 0) hx hb dX8_take_166 (by decide) ?_
  refine lv_aload_n hx hb dX8_take_167 rfl (lv_at hl 0 rfl) ?_
  refine va_get (D := (dC, dI)) (ci := 8) (v := .ref (a 45)) (C := RX8) (T := TX8) (N := 17) hx hb hts i_X8_take_X8 hown hK hP 0 rfl rfl 12 (by decide) (hts _ m_X8_take_16) (fun _ h9 => h9) rfl dX8_take_168 ?_
  refine lv_iconst (v := 0) hx hb dX8_take_171 (by decide) ?_
  refine lv_bipush (v := 32) hx hb dX8_take_172 (by decide) ?_
  refine va_copyi hx hb (hml.trans hl.1.symm) hown (hts _ m_X8_take_4) (hts _ m_X8_take_5) (hts _ m_X8_take_6) (hts _ m_X8_take_7) hK hP hD hS 30 10 0 0 rfl rfl rfl rfl rfl (by decide) (by decide) (by decide) (by decide) (by decide) (fun _ _ => rfl) (Nat.le_of_ble_eq_true rfl) (Nat.le_of_ble_eq_true rfl) dX8_take_174 (fun H locs hP hD hS => ?_)
  refine lv_aload_n hx hb dX8_take_177 rfl (lv_at hl 1 rfl) ?_
  refine va_get (D := (dC, dI)) (ci := 8) (v := .ref (a 12)) (C := RX8) (T := TX8) (N := 17) hx hb hts i_X8_take_X8 hown hK hP 20 rfl rfl 13 (by decide) (hts _ m_X8_take_17) (fun _ h9 => h9) rfl dX8_take_178 ?_
  refine lv_iconst (v := 0) hx hb dX8_take_181 (by decide) ?_
  refine lv_aload_n hx hb dX8_take_182 rfl (lv_at hl 0 rfl) ?_
  refine va_get (D := (dC, dI)) (ci := 8) (v := .ref (a 46)) (C := RX8) (T := TX8) (N := 17) hx hb hts i_X8_take_X8 hown hK hP 0 rfl rfl 13 (by decide) (hts _ m_X8_take_17) (fun _ h9 => h9) rfl dX8_take_183 ?_
  refine lv_iconst (v := 0) hx hb dX8_take_186 (by decide) ?_
  refine lv_sipush (v := 192) hx hb dX8_take_187 (by decide) ?_
  refine va_copyi hx hb (hml.trans hl.1.symm) hown (hts _ m_X8_take_4) (hts _ m_X8_take_5) (hts _ m_X8_take_6) (hts _ m_X8_take_7) hK hP hD hS 31 11 0 0 rfl rfl rfl rfl rfl (by decide) (by decide) (by decide) (by decide) (by decide) (fun _ _ => rfl) (Nat.le_of_ble_eq_true rfl) (Nat.le_of_ble_eq_true rfl) dX8_take_190 (fun H locs hP hD hS => ?_)
  refine lv_aload_n hx hb dX8_take_193 rfl (lv_at hl 0 rfl) ?_
  refine va_get (D := (dC, dI)) (ci := 8) (v := .ref (a 47)) (C := RX8) (T := TX8) (N := 17) hx hb hts i_X8_take_X8 hown hK hP 0 rfl rfl 14 (by decide) (hts _ m_X8_take_18) (fun _ h9 => h9) rfl dX8_take_194 ?_
  refine lv_aload_n hx hb dX8_take_197 rfl (lv_at hl 1 rfl) ?_
  refine va_get (D := (dC, dI)) (ci := 8) (v := .ref (a 13)) (C := RX8) (T := TX8) (N := 17) hx hb hts i_X8_take_X8 hown hK hP 20 rfl rfl 14 (by decide) (hts _ m_X8_take_18) (fun _ h9 => h9) rfl dX8_take_198 ?_
  have hPc : va_P (dC, dI) vwCl ([(a 47, .inr (6, [.ref (a 48), .int 0, .int 0, .int 0])), (a 48, .inl (cy 0, 40, .inl (fun _ => 0))), (a 13, .inr (6, [.ref (a 14), .int 0, .int 0, .int 0])), (a 14, .inl (cy 0, 40, .inl (fun _ => 0)))]) _ := hP.sub [12, 13, 32, 33] rfl
  have hDc := hD.sub (ws' := [(a 47, .inr (6, [.ref (a 48), .int 0, .int 0, .int 0])), (a 48, .inl (cy 0, 40, .inl (fun _ => 0))), (a 13, .inr (6, [.ref (a 14), .int 0, .int 0, .int 0])), (a 14, .inl (cy 0, 40, .inl (fun _ => 0)))]) [12, 13, 32, 33] (by decide) rfl
  have hFc := va_free (wc := [(a 47, .inr (6, [.ref (a 48), .int 0, .int 0, .int 0])), (a 48, .inl (cy 0, 40, .inl (fun _ => 0))), (a 13, .inr (6, [.ref (a 14), .int 0, .int 0, .int 0])), (a 14, .inl (cy 0, 40, .inl (fun _ => 0)))]) hD hS hA [12, 13, 32, 33] rfl
  refine va_callv (va_runV (As := [.ref (a 13)]) (rest := []) ⟨hx, hb, hml, hown, hts⟩ (c_X6_take l dC dI cy a g _) (cwV 1 hts g_X8_take_X6_take_89 rfl rfl rfl (by decide +kernel) ⟨Nat.le_of_ble_eq_true rfl, Nat.le_of_ble_eq_true rfl⟩) (pv_ps hC hPc hDc (ci := 6) (q0 := 0) rfl rfl) rfl rfl hl.1 rfl (lv_room (Nat.le_of_ble_eq_true rfl)) dX8_take_201 ⟨Nat.le_of_ble_eq_true rfl, Nat.le_of_ble_eq_true rfl⟩) hS (fun q _ h => hFc q h) hFc (fun u t_ H1 locs ht hvm hw hB hz1 hk1 hS => ?_)
  obtain ⟨u1_, rfl⟩ : ∃ z, z = u := ⟨_, rfl⟩
  obtain ⟨hP1, hD1⟩ := hB
  rw [ht] at hP1
  obtain ⟨hP, hD⟩ := va_join (wr := [(a 35, .inr (8, [.int 1, .int 0, .int 0, .ref (a 36), .ref (a 37), .ref (a 38), .ref (a 39), .ref (a 40), .ref (a 41), .ref (a 42), .ref (a 43), .ref (a 44), .ref (a 45), .ref (a 46), .ref (a 47), .ref (a 49), .ref (a 52)])), (a 36, .inl (cy 0, 32, .inl (va_cpy (fun _ => 0) (fun _ => 0) (Int32.toNatClampNeg 0) (Int32.toNatClampNeg 0) (Int32.toNatClampNeg 32)))), (a 37, .inl (cy 0, 192, .inl (va_cpy (fun _ => 0) (fun _ => 0) (Int32.toNatClampNeg 0) (Int32.toNatClampNeg 0) (Int32.toNatClampNeg 192)))), (a 38, .inl (cy 0, 32, .inl (va_cpy (fun _ => 0) (fun _ => 0) (Int32.toNatClampNeg 0) (Int32.toNatClampNeg 0) (Int32.toNatClampNeg 32)))), (a 39, .inl (cy 0, 32, .inl (va_cpy (fun _ => 0) (fun _ => 0) (Int32.toNatClampNeg 0) (Int32.toNatClampNeg 0) (Int32.toNatClampNeg 32)))), (a 40, .inl (cy 0, 32, .inl (va_cpy (fun _ => 0) (fun _ => 0) (Int32.toNatClampNeg 0) (Int32.toNatClampNeg 0) (Int32.toNatClampNeg 32)))), (a 41, .inl (cy 0, 32, .inl (va_cpy (fun _ => (-1)) (fun _ => (-1)) (Int32.toNatClampNeg 0) (Int32.toNatClampNeg 0) (Int32.toNatClampNeg 32)))), (a 42, .inl (cy 0, 32, .inl (va_cpy (fun _ => 0) (fun _ => 0) (Int32.toNatClampNeg 0) (Int32.toNatClampNeg 0) (Int32.toNatClampNeg 32)))), (a 43, .inl (cy 0, 192, .inl (va_cpy (fun _ => (-1)) (fun _ => (-1)) (Int32.toNatClampNeg 0) (Int32.toNatClampNeg 0) (Int32.toNatClampNeg 192)))), (a 44, .inl (cy 0, 128, .inl (va_cpy (fun _ => (-1)) (fun _ => (-1)) (Int32.toNatClampNeg 0) (Int32.toNatClampNeg 0) (Int32.toNatClampNeg 128)))), (a 45, .inl (cy 0, 32, .inl (va_cpy (fun _ => 0) (fun _ => 0) (Int32.toNatClampNeg 0) (Int32.toNatClampNeg 0) (Int32.toNatClampNeg 32)))), (a 46, .inl (cy 0, 192, .inl (va_cpy (fun _ => 0) (fun _ => 0) (Int32.toNatClampNeg 0) (Int32.toNatClampNeg 0) (Int32.toNatClampNeg 192)))), (a 49, .inr (2, [.ref (a 50), .ref (a 51), .int 0, .int 0])), (a 50, .inl (cy 0, 16, .inl (fun _ => 0))), (a 51, .inl (cy 0, 16, .inl (fun _ => 0))), (a 52, .inr (2, [.ref (a 53), .ref (a 54), .int 0, .int 0])), (a 53, .inl (cy 0, 32, .inl (fun _ => 0))), (a 54, .inl (cy 0, 32, .inl (fun _ => 0))), (a 1, .inr (8, [.int 1, .int 0, .int 0, .ref (a 2), .ref (a 3), .ref (a 4), .ref (a 5), .ref (a 6), .ref (a 7), .ref (a 8), .ref (a 9), .ref (a 10), .ref (a 11), .ref (a 12), .ref (a 13), .ref (a 15), .ref (a 18)])), (a 2, .inl (cy 0, 32, .inl (fun _ => 0))), (a 3, .inl (cy 0, 192, .inl (fun _ => 0))), (a 4, .inl (cy 0, 32, .inl (fun _ => 0))), (a 5, .inl (cy 0, 32, .inl (fun _ => 0))), (a 6, .inl (cy 0, 32, .inl (fun _ => 0))), (a 7, .inl (cy 0, 32, .inl (fun _ => (-1)))), (a 8, .inl (cy 0, 32, .inl (fun _ => 0))), (a 9, .inl (cy 0, 192, .inl (fun _ => (-1)))), (a 10, .inl (cy 0, 128, .inl (fun _ => (-1)))), (a 11, .inl (cy 0, 32, .inl (fun _ => 0))), (a 12, .inl (cy 0, 192, .inl (fun _ => 0))), (a 15, .inr (2, [.ref (a 16), .ref (a 17), .int 0, .int 0])), (a 16, .inl (cy 0, 16, .inl (fun _ => 0))), (a 17, .inl (cy 0, 16, .inl (fun _ => 0))), (a 18, .inr (2, [.ref (a 19), .ref (a 20), .int 0, .int 0])), (a 19, .inl (cy 0, 32, .inl (fun _ => 0))), (a 20, .inl (cy 0, 32, .inl (fun _ => 0)))]) (w1 := [(a 13, .inr (6, [.ref (a 14), .int 0, .int 0, .int 0])), (a 14, .inl (cy 0, 40, .inl (fun _ => 0)))]) hP hD [12, 13, 32, 33] [0, 1, 2, 3, 4, 5, 6, 7, 8, 9, 10, 11, 14, 15, 16, 17, 18, 19, 20, 21, 22, 23, 24, 25, 26, 27, 28, 29, 30, 31, 34, 35, 36, 37, 38, 39] rfl rfl (by decide) (by decide) hk1 hFc hP1 hD1
  generalize H1 = H at hP hS ⊢
  have hP : va_P (dC, dI) vwCl ([(a 35, .inr (8, [.int 1, .int 0, .int 0, .ref (a 36), .ref (a 37), .ref (a 38), .ref (a 39), .ref (a 40), .ref (a 41), .ref (a 42), .ref (a 43), .ref (a 44), .ref (a 45), .ref (a 46), .ref (a 47), .ref (a 49), .ref (a 52)])), (a 36, .inl (cy 0, 32, .inl (va_cpy (fun _ => 0) (fun _ => 0) (Int32.toNatClampNeg 0) (Int32.toNatClampNeg 0) (Int32.toNatClampNeg 32)))), (a 37, .inl (cy 0, 192, .inl (va_cpy (fun _ => 0) (fun _ => 0) (Int32.toNatClampNeg 0) (Int32.toNatClampNeg 0) (Int32.toNatClampNeg 192)))), (a 38, .inl (cy 0, 32, .inl (va_cpy (fun _ => 0) (fun _ => 0) (Int32.toNatClampNeg 0) (Int32.toNatClampNeg 0) (Int32.toNatClampNeg 32)))), (a 39, .inl (cy 0, 32, .inl (va_cpy (fun _ => 0) (fun _ => 0) (Int32.toNatClampNeg 0) (Int32.toNatClampNeg 0) (Int32.toNatClampNeg 32)))), (a 40, .inl (cy 0, 32, .inl (va_cpy (fun _ => 0) (fun _ => 0) (Int32.toNatClampNeg 0) (Int32.toNatClampNeg 0) (Int32.toNatClampNeg 32)))), (a 41, .inl (cy 0, 32, .inl (va_cpy (fun _ => (-1)) (fun _ => (-1)) (Int32.toNatClampNeg 0) (Int32.toNatClampNeg 0) (Int32.toNatClampNeg 32)))), (a 42, .inl (cy 0, 32, .inl (va_cpy (fun _ => 0) (fun _ => 0) (Int32.toNatClampNeg 0) (Int32.toNatClampNeg 0) (Int32.toNatClampNeg 32)))), (a 43, .inl (cy 0, 192, .inl (va_cpy (fun _ => (-1)) (fun _ => (-1)) (Int32.toNatClampNeg 0) (Int32.toNatClampNeg 0) (Int32.toNatClampNeg 192)))), (a 44, .inl (cy 0, 128, .inl (va_cpy (fun _ => (-1)) (fun _ => (-1)) (Int32.toNatClampNeg 0) (Int32.toNatClampNeg 0) (Int32.toNatClampNeg 128)))), (a 45, .inl (cy 0, 32, .inl (va_cpy (fun _ => 0) (fun _ => 0) (Int32.toNatClampNeg 0) (Int32.toNatClampNeg 0) (Int32.toNatClampNeg 32)))), (a 46, .inl (cy 0, 192, .inl (va_cpy (fun _ => 0) (fun _ => 0) (Int32.toNatClampNeg 0) (Int32.toNatClampNeg 0) (Int32.toNatClampNeg 192)))), (a 49, .inr (2, [.ref (a 50), .ref (a 51), .int 0, .int 0])), (a 50, .inl (cy 0, 16, .inl (fun _ => 0))), (a 51, .inl (cy 0, 16, .inl (fun _ => 0))), (a 52, .inr (2, [.ref (a 53), .ref (a 54), .int 0, .int 0])), (a 53, .inl (cy 0, 32, .inl (fun _ => 0))), (a 54, .inl (cy 0, 32, .inl (fun _ => 0))), (a 1, .inr (8, [.int 1, .int 0, .int 0, .ref (a 2), .ref (a 3), .ref (a 4), .ref (a 5), .ref (a 6), .ref (a 7), .ref (a 8), .ref (a 9), .ref (a 10), .ref (a 11), .ref (a 12), .ref (a 13), .ref (a 15), .ref (a 18)])), (a 2, .inl (cy 0, 32, .inl (fun _ => 0))), (a 3, .inl (cy 0, 192, .inl (fun _ => 0))), (a 4, .inl (cy 0, 32, .inl (fun _ => 0))), (a 5, .inl (cy 0, 32, .inl (fun _ => 0))), (a 6, .inl (cy 0, 32, .inl (fun _ => 0))), (a 7, .inl (cy 0, 32, .inl (fun _ => (-1)))), (a 8, .inl (cy 0, 32, .inl (fun _ => 0))), (a 9, .inl (cy 0, 192, .inl (fun _ => (-1)))), (a 10, .inl (cy 0, 128, .inl (fun _ => (-1)))), (a 11, .inl (cy 0, 32, .inl (fun _ => 0))), (a 12, .inl (cy 0, 192, .inl (fun _ => 0))), (a 15, .inr (2, [.ref (a 16), .ref (a 17), .int 0, .int 0])), (a 16, .inl (cy 0, 16, .inl (fun _ => 0))), (a 17, .inl (cy 0, 16, .inl (fun _ => 0))), (a 18, .inr (2, [.ref (a 19), .ref (a 20), .int 0, .int 0])), (a 19, .inl (cy 0, 32, .inl (fun _ => 0))), (a 20, .inl (cy 0, 32, .inl (fun _ => 0))), (a 13, .inr (6, [.ref (a 14), .int 0, .int 0, .int 0])), (a 14, .inl (cy 0, 40, .inl (fun _ => 0)))]) H := hP
  have hD : va_D A ([(a 35, .inr (8, [.int 1, .int 0, .int 0, .ref (a 36), .ref (a 37), .ref (a 38), .ref (a 39), .ref (a 40), .ref (a 41), .ref (a 42), .ref (a 43), .ref (a 44), .ref (a 45), .ref (a 46), .ref (a 47), .ref (a 49), .ref (a 52)])), (a 36, .inl (cy 0, 32, .inl (va_cpy (fun _ => 0) (fun _ => 0) (Int32.toNatClampNeg 0) (Int32.toNatClampNeg 0) (Int32.toNatClampNeg 32)))), (a 37, .inl (cy 0, 192, .inl (va_cpy (fun _ => 0) (fun _ => 0) (Int32.toNatClampNeg 0) (Int32.toNatClampNeg 0) (Int32.toNatClampNeg 192)))), (a 38, .inl (cy 0, 32, .inl (va_cpy (fun _ => 0) (fun _ => 0) (Int32.toNatClampNeg 0) (Int32.toNatClampNeg 0) (Int32.toNatClampNeg 32)))), (a 39, .inl (cy 0, 32, .inl (va_cpy (fun _ => 0) (fun _ => 0) (Int32.toNatClampNeg 0) (Int32.toNatClampNeg 0) (Int32.toNatClampNeg 32)))), (a 40, .inl (cy 0, 32, .inl (va_cpy (fun _ => 0) (fun _ => 0) (Int32.toNatClampNeg 0) (Int32.toNatClampNeg 0) (Int32.toNatClampNeg 32)))), (a 41, .inl (cy 0, 32, .inl (va_cpy (fun _ => (-1)) (fun _ => (-1)) (Int32.toNatClampNeg 0) (Int32.toNatClampNeg 0) (Int32.toNatClampNeg 32)))), (a 42, .inl (cy 0, 32, .inl (va_cpy (fun _ => 0) (fun _ => 0) (Int32.toNatClampNeg 0) (Int32.toNatClampNeg 0) (Int32.toNatClampNeg 32)))), (a 43, .inl (cy 0, 192, .inl (va_cpy (fun _ => (-1)) (fun _ => (-1)) (Int32.toNatClampNeg 0) (Int32.toNatClampNeg 0) (Int32.toNatClampNeg 192)))), (a 44, .inl (cy 0, 128, .inl (va_cpy (fun _ => (-1)) (fun _ => (-1)) (Int32.toNatClampNeg 0) (Int32.toNatClampNeg 0) (Int32.toNatClampNeg 128)))), (a 45, .inl (cy 0, 32, .inl (va_cpy (fun _ => 0) (fun _ => 0) (Int32.toNatClampNeg 0) (Int32.toNatClampNeg 0) (Int32.toNatClampNeg 32)))), (a 46, .inl (cy 0, 192, .inl (va_cpy (fun _ => 0) (fun _ => 0) (Int32.toNatClampNeg 0) (Int32.toNatClampNeg 0) (Int32.toNatClampNeg 192)))), (a 49, .inr (2, [.ref (a 50), .ref (a 51), .int 0, .int 0])), (a 50, .inl (cy 0, 16, .inl (fun _ => 0))), (a 51, .inl (cy 0, 16, .inl (fun _ => 0))), (a 52, .inr (2, [.ref (a 53), .ref (a 54), .int 0, .int 0])), (a 53, .inl (cy 0, 32, .inl (fun _ => 0))), (a 54, .inl (cy 0, 32, .inl (fun _ => 0))), (a 1, .inr (8, [.int 1, .int 0, .int 0, .ref (a 2), .ref (a 3), .ref (a 4), .ref (a 5), .ref (a 6), .ref (a 7), .ref (a 8), .ref (a 9), .ref (a 10), .ref (a 11), .ref (a 12), .ref (a 13), .ref (a 15), .ref (a 18)])), (a 2, .inl (cy 0, 32, .inl (fun _ => 0))), (a 3, .inl (cy 0, 192, .inl (fun _ => 0))), (a 4, .inl (cy 0, 32, .inl (fun _ => 0))), (a 5, .inl (cy 0, 32, .inl (fun _ => 0))), (a 6, .inl (cy 0, 32, .inl (fun _ => 0))), (a 7, .inl (cy 0, 32, .inl (fun _ => (-1)))), (a 8, .inl (cy 0, 32, .inl (fun _ => 0))), (a 9, .inl (cy 0, 192, .inl (fun _ => (-1)))), (a 10, .inl (cy 0, 128, .inl (fun _ => (-1)))), (a 11, .inl (cy 0, 32, .inl (fun _ => 0))), (a 12, .inl (cy 0, 192, .inl (fun _ => 0))), (a 15, .inr (2, [.ref (a 16), .ref (a 17), .int 0, .int 0])), (a 16, .inl (cy 0, 16, .inl (fun _ => 0))), (a 17, .inl (cy 0, 16, .inl (fun _ => 0))), (a 18, .inr (2, [.ref (a 19), .ref (a 20), .int 0, .int 0])), (a 19, .inl (cy 0, 32, .inl (fun _ => 0))), (a 20, .inl (cy 0, 32, .inl (fun _ => 0))), (a 13, .inr (6, [.ref (a 14), .int 0, .int 0, .int 0])), (a 14, .inl (cy 0, 40, .inl (fun _ => 0)))]) := hD
  refine lv_aload_n hx hb dX8_take_204 rfl (lv_at hl 0 rfl) ?_
  refine va_get (D := (dC, dI)) (ci := 8) (v := .ref (a 49)) (C := RX8) (T := TX8) (N := 17) hx hb hts i_X8_take_X8 hown hK hP 0 rfl rfl 15 (by decide) (hts _ m_X8_take_19) (fun _ h9 => h9) rfl dX8_take_205 ?_
  refine lv_aload_n hx hb dX8_take_208 rfl (lv_at hl 1 rfl) ?_
  refine va_get (D := (dC, dI)) (ci := 8) (v := .ref (a 15)) (C := RX8) (T := TX8) (N := 17) hx hb hts i_X8_take_X8 hown hK hP 18 rfl rfl 15 (by decide) (hts _ m_X8_take_19) (fun _ h9 => h9) rfl dX8_take_209 ?_
  have hPc : va_P (dC, dI) vwCl ([(a 49, .inr (2, [.ref (a 50), .ref (a 51), .int 0, .int 0])), (a 50, .inl (cy 0, 16, .inl (fun _ => 0))), (a 51, .inl (cy 0, 16, .inl (fun _ => 0))), (a 15, .inr (2, [.ref (a 16), .ref (a 17), .int 0, .int 0])), (a 16, .inl (cy 0, 16, .inl (fun _ => 0))), (a 17, .inl (cy 0, 16, .inl (fun _ => 0)))]) _ := hP.sub [12, 13, 14, 30, 31, 32] rfl
  have hDc := hD.sub (ws' := [(a 49, .inr (2, [.ref (a 50), .ref (a 51), .int 0, .int 0])), (a 50, .inl (cy 0, 16, .inl (fun _ => 0))), (a 51, .inl (cy 0, 16, .inl (fun _ => 0))), (a 15, .inr (2, [.ref (a 16), .ref (a 17), .int 0, .int 0])), (a 16, .inl (cy 0, 16, .inl (fun _ => 0))), (a 17, .inl (cy 0, 16, .inl (fun _ => 0)))]) [12, 13, 14, 30, 31, 32] (by decide) rfl
  have hFc := va_free (wc := [(a 49, .inr (2, [.ref (a 50), .ref (a 51), .int 0, .int 0])), (a 50, .inl (cy 0, 16, .inl (fun _ => 0))), (a 51, .inl (cy 0, 16, .inl (fun _ => 0))), (a 15, .inr (2, [.ref (a 16), .ref (a 17), .int 0, .int 0])), (a 16, .inl (cy 0, 16, .inl (fun _ => 0))), (a 17, .inl (cy 0, 16, .inl (fun _ => 0)))]) hD hS hA [12, 13, 14, 30, 31, 32] rfl
  refine va_callv (va_runV (As := [.ref (a 15)]) (rest := []) ⟨hx, hb, hml, hown, hts⟩ (c_X2_take_n l dC dI cy a g _) (cwV 1 hts g_X8_take_X2_take_93 rfl rfl rfl (by decide +kernel) ⟨Nat.le_of_ble_eq_true rfl, Nat.le_of_ble_eq_true rfl⟩) (pv_ps hC hPc hDc (ci := 2) (q0 := 0) rfl rfl) rfl rfl hl.1 rfl (lv_room (Nat.le_of_ble_eq_true rfl)) dX8_take_212 ⟨Nat.le_of_ble_eq_true rfl, Nat.le_of_ble_eq_true rfl⟩) hS (fun q _ h => hFc q h) hFc (fun u t_ H1 locs ht hvm hw hB hz1 hk1 hS => ?_)
  obtain ⟨u2_, rfl⟩ : ∃ z, z = u := ⟨_, rfl⟩
  obtain ⟨hP1, hD1⟩ := hB
  rw [ht] at hP1
  obtain ⟨hP, hD⟩ := va_join (wr := [(a 35, .inr (8, [.int 1, .int 0, .int 0, .ref (a 36), .ref (a 37), .ref (a 38), .ref (a 39), .ref (a 40), .ref (a 41), .ref (a 42), .ref (a 43), .ref (a 44), .ref (a 45), .ref (a 46), .ref (a 47), .ref (a 49), .ref (a 52)])), (a 36, .inl (cy 0, 32, .inl (va_cpy (fun _ => 0) (fun _ => 0) (Int32.toNatClampNeg 0) (Int32.toNatClampNeg 0) (Int32.toNatClampNeg 32)))), (a 37, .inl (cy 0, 192, .inl (va_cpy (fun _ => 0) (fun _ => 0) (Int32.toNatClampNeg 0) (Int32.toNatClampNeg 0) (Int32.toNatClampNeg 192)))), (a 38, .inl (cy 0, 32, .inl (va_cpy (fun _ => 0) (fun _ => 0) (Int32.toNatClampNeg 0) (Int32.toNatClampNeg 0) (Int32.toNatClampNeg 32)))), (a 39, .inl (cy 0, 32, .inl (va_cpy (fun _ => 0) (fun _ => 0) (Int32.toNatClampNeg 0) (Int32.toNatClampNeg 0) (Int32.toNatClampNeg 32)))), (a 40, .inl (cy 0, 32, .inl (va_cpy (fun _ => 0) (fun _ => 0) (Int32.toNatClampNeg 0) (Int32.toNatClampNeg 0) (Int32.toNatClampNeg 32)))), (a 41, .inl (cy 0, 32, .inl (va_cpy (fun _ => (-1)) (fun _ => (-1)) (Int32.toNatClampNeg 0) (Int32.toNatClampNeg 0) (Int32.toNatClampNeg 32)))), (a 42, .inl (cy 0, 32, .inl (va_cpy (fun _ => 0) (fun _ => 0) (Int32.toNatClampNeg 0) (Int32.toNatClampNeg 0) (Int32.toNatClampNeg 32)))), (a 43, .inl (cy 0, 192, .inl (va_cpy (fun _ => (-1)) (fun _ => (-1)) (Int32.toNatClampNeg 0) (Int32.toNatClampNeg 0) (Int32.toNatClampNeg 192)))), (a 44, .inl (cy 0, 128, .inl (va_cpy (fun _ => (-1)) (fun _ => (-1)) (Int32.toNatClampNeg 0) (Int32.toNatClampNeg 0) (Int32.toNatClampNeg 128)))), (a 45, .inl (cy 0, 32, .inl (va_cpy (fun _ => 0) (fun _ => 0) (Int32.toNatClampNeg 0) (Int32.toNatClampNeg 0) (Int32.toNatClampNeg 32)))), (a 46, .inl (cy 0, 192, .inl (va_cpy (fun _ => 0) (fun _ => 0) (Int32.toNatClampNeg 0) (Int32.toNatClampNeg 0) (Int32.toNatClampNeg 192)))), (a 52, .inr (2, [.ref (a 53), .ref (a 54), .int 0, .int 0])), (a 53, .inl (cy 0, 32, .inl (fun _ => 0))), (a 54, .inl (cy 0, 32, .inl (fun _ => 0))), (a 1, .inr (8, [.int 1, .int 0, .int 0, .ref (a 2), .ref (a 3), .ref (a 4), .ref (a 5), .ref (a 6), .ref (a 7), .ref (a 8), .ref (a 9), .ref (a 10), .ref (a 11), .ref (a 12), .ref (a 13), .ref (a 15), .ref (a 18)])), (a 2, .inl (cy 0, 32, .inl (fun _ => 0))), (a 3, .inl (cy 0, 192, .inl (fun _ => 0))), (a 4, .inl (cy 0, 32, .inl (fun _ => 0))), (a 5, .inl (cy 0, 32, .inl (fun _ => 0))), (a 6, .inl (cy 0, 32, .inl (fun _ => 0))), (a 7, .inl (cy 0, 32, .inl (fun _ => (-1)))), (a 8, .inl (cy 0, 32, .inl (fun _ => 0))), (a 9, .inl (cy 0, 192, .inl (fun _ => (-1)))), (a 10, .inl (cy 0, 128, .inl (fun _ => (-1)))), (a 11, .inl (cy 0, 32, .inl (fun _ => 0))), (a 12, .inl (cy 0, 192, .inl (fun _ => 0))), (a 18, .inr (2, [.ref (a 19), .ref (a 20), .int 0, .int 0])), (a 19, .inl (cy 0, 32, .inl (fun _ => 0))), (a 20, .inl (cy 0, 32, .inl (fun _ => 0))), (a 13, .inr (6, [.ref (a 14), .int 0, .int 0, .int 0])), (a 14, .inl (cy 0, 40, .inl (fun _ => 0)))]) (w1 := [(a 15, .inr (2, [.ref (a 16), .ref (a 17), .int 0, .int 0])), (a 16, .inl (cy 0, 16, .inl (fun _ => 0))), (a 17, .inl (cy 0, 16, .inl (fun _ => 0)))]) hP hD [12, 13, 14, 30, 31, 32] [0, 1, 2, 3, 4, 5, 6, 7, 8, 9, 10, 11, 15, 16, 17, 18, 19, 20, 21, 22, 23, 24, 25, 26, 27, 28, 29, 33, 34, 35, 36, 37] rfl rfl (by decide) (by decide) hk1 hFc hP1 hD1
  generalize H1 = H at hP hS ⊢
  have hP : va_P (dC, dI) vwCl ([(a 35, .inr (8, [.int 1, .int 0, .int 0, .ref (a 36), .ref (a 37), .ref (a 38), .ref (a 39), .ref (a 40), .ref (a 41), .ref (a 42), .ref (a 43), .ref (a 44), .ref (a 45), .ref (a 46), .ref (a 47), .ref (a 49), .ref (a 52)])), (a 36, .inl (cy 0, 32, .inl (va_cpy (fun _ => 0) (fun _ => 0) (Int32.toNatClampNeg 0) (Int32.toNatClampNeg 0) (Int32.toNatClampNeg 32)))), (a 37, .inl (cy 0, 192, .inl (va_cpy (fun _ => 0) (fun _ => 0) (Int32.toNatClampNeg 0) (Int32.toNatClampNeg 0) (Int32.toNatClampNeg 192)))), (a 38, .inl (cy 0, 32, .inl (va_cpy (fun _ => 0) (fun _ => 0) (Int32.toNatClampNeg 0) (Int32.toNatClampNeg 0) (Int32.toNatClampNeg 32)))), (a 39, .inl (cy 0, 32, .inl (va_cpy (fun _ => 0) (fun _ => 0) (Int32.toNatClampNeg 0) (Int32.toNatClampNeg 0) (Int32.toNatClampNeg 32)))), (a 40, .inl (cy 0, 32, .inl (va_cpy (fun _ => 0) (fun _ => 0) (Int32.toNatClampNeg 0) (Int32.toNatClampNeg 0) (Int32.toNatClampNeg 32)))), (a 41, .inl (cy 0, 32, .inl (va_cpy (fun _ => (-1)) (fun _ => (-1)) (Int32.toNatClampNeg 0) (Int32.toNatClampNeg 0) (Int32.toNatClampNeg 32)))), (a 42, .inl (cy 0, 32, .inl (va_cpy (fun _ => 0) (fun _ => 0) (Int32.toNatClampNeg 0) (Int32.toNatClampNeg 0) (Int32.toNatClampNeg 32)))), (a 43, .inl (cy 0, 192, .inl (va_cpy (fun _ => (-1)) (fun _ => (-1)) (Int32.toNatClampNeg 0) (Int32.toNatClampNeg 0) (Int32.toNatClampNeg 192)))), (a 44, .inl (cy 0, 128, .inl (va_cpy (fun _ => (-1)) (fun _ => (-1)) (Int32.toNatClampNeg 0) (Int32.toNatClampNeg 0) (Int32.toNatClampNeg 128)))), (a 45, .inl (cy 0, 32, .inl (va_cpy (fun _ => 0) (fun _ => 0) (Int32.toNatClampNeg 0) (Int32.toNatClampNeg 0) (Int32.toNatClampNeg 32)))), (a 46, .inl (cy 0, 192, .inl (va_cpy (fun _ => 0) (fun _ => 0) (Int32.toNatClampNeg 0) (Int32.toNatClampNeg 0) (Int32.toNatClampNeg 192)))), (a 52, .inr (2, [.ref (a 53), .ref (a 54), .int 0, .int 0])), (a 53, .inl (cy 0, 32, .inl (fun _ => 0))), (a 54, .inl (cy 0, 32, .inl (fun _ => 0))), (a 1, .inr (8, [.int 1, .int 0, .int 0, .ref (a 2), .ref (a 3), .ref (a 4), .ref (a 5), .ref (a 6), .ref (a 7), .ref (a 8), .ref (a 9), .ref (a 10), .ref (a 11), .ref (a 12), .ref (a 13), .ref (a 15), .ref (a 18)])), (a 2, .inl (cy 0, 32, .inl (fun _ => 0))), (a 3, .inl (cy 0, 192, .inl (fun _ => 0))), (a 4, .inl (cy 0, 32, .inl (fun _ => 0))), (a 5, .inl (cy 0, 32, .inl (fun _ => 0))), (a 6, .inl (cy 0, 32, .inl (fun _ => 0))), (a 7, .inl (cy 0, 32, .inl (fun _ => (-1)))), (a 8, .inl (cy 0, 32, .inl (fun _ => 0))), (a 9, .inl (cy 0, 192, .inl (fun _ => (-1)))), (a 10, .inl (cy 0, 128, .inl (fun _ => (-1)))), (a 11, .inl (cy 0, 32, .inl (fun _ => 0))), (a 12, .inl (cy 0, 192, .inl (fun _ => 0))), (a 18, .inr (2, [.ref (a 19), .ref (a 20), .int 0, .int 0])), (a 19, .inl (cy 0, 32, .inl (fun _ => 0))), (a 20, .inl (cy 0, 32, .inl (fun _ => 0))), (a 13, .inr (6, [.ref (a 14), .int 0, .int 0, .int 0])), (a 14, .inl (cy 0, 40, .inl (fun _ => 0))), (a 15, .inr (2, [.ref (a 16), .ref (a 17), .int 0, .int 0])), (a 16, .inl (cy 0, 16, .inl (fun _ => 0))), (a 17, .inl (cy 0, 16, .inl (fun _ => 0)))]) H := hP
  have hD : va_D A ([(a 35, .inr (8, [.int 1, .int 0, .int 0, .ref (a 36), .ref (a 37), .ref (a 38), .ref (a 39), .ref (a 40), .ref (a 41), .ref (a 42), .ref (a 43), .ref (a 44), .ref (a 45), .ref (a 46), .ref (a 47), .ref (a 49), .ref (a 52)])), (a 36, .inl (cy 0, 32, .inl (va_cpy (fun _ => 0) (fun _ => 0) (Int32.toNatClampNeg 0) (Int32.toNatClampNeg 0) (Int32.toNatClampNeg 32)))), (a 37, .inl (cy 0, 192, .inl (va_cpy (fun _ => 0) (fun _ => 0) (Int32.toNatClampNeg 0) (Int32.toNatClampNeg 0) (Int32.toNatClampNeg 192)))), (a 38, .inl (cy 0, 32, .inl (va_cpy (fun _ => 0) (fun _ => 0) (Int32.toNatClampNeg 0) (Int32.toNatClampNeg 0) (Int32.toNatClampNeg 32)))), (a 39, .inl (cy 0, 32, .inl (va_cpy (fun _ => 0) (fun _ => 0) (Int32.toNatClampNeg 0) (Int32.toNatClampNeg 0) (Int32.toNatClampNeg 32)))), (a 40, .inl (cy 0, 32, .inl (va_cpy (fun _ => 0) (fun _ => 0) (Int32.toNatClampNeg 0) (Int32.toNatClampNeg 0) (Int32.toNatClampNeg 32)))), (a 41, .inl (cy 0, 32, .inl (va_cpy (fun _ => (-1)) (fun _ => (-1)) (Int32.toNatClampNeg 0) (Int32.toNatClampNeg 0) (Int32.toNatClampNeg 32)))), (a 42, .inl (cy 0, 32, .inl (va_cpy (fun _ => 0) (fun _ => 0) (Int32.toNatClampNeg 0) (Int32.toNatClampNeg 0) (Int32.toNatClampNeg 32)))), (a 43, .inl (cy 0, 192, .inl (va_cpy (fun _ => (-1)) (fun _ => (-1)) (Int32.toNatClampNeg 0) (Int32.toNatClampNeg 0) (Int32.toNatClampNeg 192)))), (a 44, .inl (cy 0, 128, .inl (va_cpy (fun _ => (-1)) (fun _ => (-1)) (Int32.toNatClampNeg 0) (Int32.toNatClampNeg 0) (Int32.toNatClampNeg 128)))), (a 45, .inl (cy 0, 32, .inl (va_cpy (fun _ => 0) (fun _ => 0) (Int32.toNatClampNeg 0) (Int32.toNatClampNeg 0) (Int32.toNatClampNeg 32)))), (a 46, .inl (cy 0, 192, .inl (va_cpy (fun _ => 0) (fun _ => 0) (Int32.toNatClampNeg 0) (Int32.toNatClampNeg 0) (Int32.toNatClampNeg 192)))), (a 52, .inr (2, [.ref (a 53), .ref (a 54), .int 0, .int 0])), (a 53, .inl (cy 0, 32, .inl (fun _ => 0))), (a 54, .inl (cy 0, 32, .inl (fun _ => 0))), (a 1, .inr (8, [.int 1, .int 0, .int 0, .ref (a 2), .ref (a 3), .ref (a 4), .ref (a 5), .ref (a 6), .ref (a 7), .ref (a 8), .ref (a 9), .ref (a 10), .ref (a 11), .ref (a 12), .ref (a 13), .ref (a 15), .ref (a 18)])), (a 2, .inl (cy 0, 32, .inl (fun _ => 0))), (a 3, .inl (cy 0, 192, .inl (fun _ => 0))), (a 4, .inl (cy 0, 32, .inl (fun _ => 0))), (a 5, .inl (cy 0, 32, .inl (fun _ => 0))), (a 6, .inl (cy 0, 32, .inl (fun _ => 0))), (a 7, .inl (cy 0, 32, .inl (fun _ => (-1)))), (a 8, .inl (cy 0, 32, .inl (fun _ => 0))), (a 9, .inl (cy 0, 192, .inl (fun _ => (-1)))), (a 10, .inl (cy 0, 128, .inl (fun _ => (-1)))), (a 11, .inl (cy 0, 32, .inl (fun _ => 0))), (a 12, .inl (cy 0, 192, .inl (fun _ => 0))), (a 18, .inr (2, [.ref (a 19), .ref (a 20), .int 0, .int 0])), (a 19, .inl (cy 0, 32, .inl (fun _ => 0))), (a 20, .inl (cy 0, 32, .inl (fun _ => 0))), (a 13, .inr (6, [.ref (a 14), .int 0, .int 0, .int 0])), (a 14, .inl (cy 0, 40, .inl (fun _ => 0))), (a 15, .inr (2, [.ref (a 16), .ref (a 17), .int 0, .int 0])), (a 16, .inl (cy 0, 16, .inl (fun _ => 0))), (a 17, .inl (cy 0, 16, .inl (fun _ => 0)))]) := hD
  refine lv_aload_n hx hb dX8_take_215 rfl (lv_at hl 0 rfl) ?_
  refine va_get (D := (dC, dI)) (ci := 8) (v := .ref (a 52)) (C := RX8) (T := TX8) (N := 17) hx hb hts i_X8_take_X8 hown hK hP 0 rfl rfl 16 (by decide) (hts _ m_X8_take_20) (fun _ h9 => h9) rfl dX8_take_216 ?_
  refine lv_aload_n hx hb dX8_take_219 rfl (lv_at hl 1 rfl) ?_
  refine va_get (D := (dC, dI)) (ci := 8) (v := .ref (a 18)) (C := RX8) (T := TX8) (N := 17) hx hb hts i_X8_take_X8 hown hK hP 15 rfl rfl 16 (by decide) (hts _ m_X8_take_20) (fun _ h9 => h9) rfl dX8_take_220 ?_
  have hPc : va_P (dC, dI) vwCl ([(a 52, .inr (2, [.ref (a 53), .ref (a 54), .int 0, .int 0])), (a 53, .inl (cy 0, 32, .inl (fun _ => 0))), (a 54, .inl (cy 0, 32, .inl (fun _ => 0))), (a 18, .inr (2, [.ref (a 19), .ref (a 20), .int 0, .int 0])), (a 19, .inl (cy 0, 32, .inl (fun _ => 0))), (a 20, .inl (cy 0, 32, .inl (fun _ => 0)))]) _ := hP.sub [12, 13, 14, 27, 28, 29] rfl
  have hDc := hD.sub (ws' := [(a 52, .inr (2, [.ref (a 53), .ref (a 54), .int 0, .int 0])), (a 53, .inl (cy 0, 32, .inl (fun _ => 0))), (a 54, .inl (cy 0, 32, .inl (fun _ => 0))), (a 18, .inr (2, [.ref (a 19), .ref (a 20), .int 0, .int 0])), (a 19, .inl (cy 0, 32, .inl (fun _ => 0))), (a 20, .inl (cy 0, 32, .inl (fun _ => 0)))]) [12, 13, 14, 27, 28, 29] (by decide) rfl
  have hFc := va_free (wc := [(a 52, .inr (2, [.ref (a 53), .ref (a 54), .int 0, .int 0])), (a 53, .inl (cy 0, 32, .inl (fun _ => 0))), (a 54, .inl (cy 0, 32, .inl (fun _ => 0))), (a 18, .inr (2, [.ref (a 19), .ref (a 20), .int 0, .int 0])), (a 19, .inl (cy 0, 32, .inl (fun _ => 0))), (a 20, .inl (cy 0, 32, .inl (fun _ => 0)))]) hD hS hA [12, 13, 14, 27, 28, 29] rfl
  refine va_callv (va_runV (As := [.ref (a 18)]) (rest := []) ⟨hx, hb, hml, hown, hts⟩ (c_X2_take_s l dC dI cy a g _) (cwV 1 hts g_X8_take_X2_take_93 rfl rfl rfl (by decide +kernel) ⟨Nat.le_of_ble_eq_true rfl, Nat.le_of_ble_eq_true rfl⟩) (pv_ps hC hPc hDc (ci := 2) (q0 := 0) rfl rfl) rfl rfl hl.1 rfl (lv_room (Nat.le_of_ble_eq_true rfl)) dX8_take_223 ⟨Nat.le_of_ble_eq_true rfl, Nat.le_of_ble_eq_true rfl⟩) hS (fun q _ h => hFc q h) hFc (fun u t_ H1 locs ht hvm hw hB hz1 hk1 hS => ?_)
  obtain ⟨u3_, rfl⟩ : ∃ z, z = u := ⟨_, rfl⟩
  obtain ⟨hP1, hD1⟩ := hB
  rw [ht] at hP1
  obtain ⟨hP, hD⟩ := va_join (wr := [(a 35, .inr (8, [.int 1, .int 0, .int 0, .ref (a 36), .ref (a 37), .ref (a 38), .ref (a 39), .ref (a 40), .ref (a 41), .ref (a 42), .ref (a 43), .ref (a 44), .ref (a 45), .ref (a 46), .ref (a 47), .ref (a 49), .ref (a 52)])), (a 36, .inl (cy 0, 32, .inl (va_cpy (fun _ => 0) (fun _ => 0) (Int32.toNatClampNeg 0) (Int32.toNatClampNeg 0) (Int32.toNatClampNeg 32)))), (a 37, .inl (cy 0, 192, .inl (va_cpy (fun _ => 0) (fun _ => 0) (Int32.toNatClampNeg 0) (Int32.toNatClampNeg 0) (Int32.toNatClampNeg 192)))), (a 38, .inl (cy 0, 32, .inl (va_cpy (fun _ => 0) (fun _ => 0) (Int32.toNatClampNeg 0) (Int32.toNatClampNeg 0) (Int32.toNatClampNeg 32)))), (a 39, .inl (cy 0, 32, .inl (va_cpy (fun _ => 0) (fun _ => 0) (Int32.toNatClampNeg 0) (Int32.toNatClampNeg 0) (Int32.toNatClampNeg 32)))), (a 40, .inl (cy 0, 32, .inl (va_cpy (fun _ => 0) (fun _ => 0) (Int32.toNatClampNeg 0) (Int32.toNatClampNeg 0) (Int32.toNatClampNeg 32)))), (a 41, .inl (cy 0, 32, .inl (va_cpy (fun _ => (-1)) (fun _ => (-1)) (Int32.toNatClampNeg 0) (Int32.toNatClampNeg 0) (Int32.toNatClampNeg 32)))), (a 42, .inl (cy 0, 32, .inl (va_cpy (fun _ => 0) (fun _ => 0) (Int32.toNatClampNeg 0) (Int32.toNatClampNeg 0) (Int32.toNatClampNeg 32)))), (a 43, .inl (cy 0, 192, .inl (va_cpy (fun _ => (-1)) (fun _ => (-1)) (Int32.toNatClampNeg 0) (Int32.toNatClampNeg 0) (Int32.toNatClampNeg 192)))), (a 44, .inl (cy 0, 128, .inl (va_cpy (fun _ => (-1)) (fun _ => (-1)) (Int32.toNatClampNeg 0) (Int32.toNatClampNeg 0) (Int32.toNatClampNeg 128)))), (a 45, .inl (cy 0, 32, .inl (va_cpy (fun _ => 0) (fun _ => 0) (Int32.toNatClampNeg 0) (Int32.toNatClampNeg 0) (Int32.toNatClampNeg 32)))), (a 46, .inl (cy 0, 192, .inl (va_cpy (fun _ => 0) (fun _ => 0) (Int32.toNatClampNeg 0) (Int32.toNatClampNeg 0) (Int32.toNatClampNeg 192)))), (a 1, .inr (8, [.int 1, .int 0, .int 0, .ref (a 2), .ref (a 3), .ref (a 4), .ref (a 5), .ref (a 6), .ref (a 7), .ref (a 8), .ref (a 9), .ref (a 10), .ref (a 11), .ref (a 12), .ref (a 13), .ref (a 15), .ref (a 18)])), (a 2, .inl (cy 0, 32, .inl (fun _ => 0))), (a 3, .inl (cy 0, 192, .inl (fun _ => 0))), (a 4, .inl (cy 0, 32, .inl (fun _ => 0))), (a 5, .inl (cy 0, 32, .inl (fun _ => 0))), (a 6, .inl (cy 0, 32, .inl (fun _ => 0))), (a 7, .inl (cy 0, 32, .inl (fun _ => (-1)))), (a 8, .inl (cy 0, 32, .inl (fun _ => 0))), (a 9, .inl (cy 0, 192, .inl (fun _ => (-1)))), (a 10, .inl (cy 0, 128, .inl (fun _ => (-1)))), (a 11, .inl (cy 0, 32, .inl (fun _ => 0))), (a 12, .inl (cy 0, 192, .inl (fun _ => 0))), (a 13, .inr (6, [.ref (a 14), .int 0, .int 0, .int 0])), (a 14, .inl (cy 0, 40, .inl (fun _ => 0))), (a 15, .inr (2, [.ref (a 16), .ref (a 17), .int 0, .int 0])), (a 16, .inl (cy 0, 16, .inl (fun _ => 0))), (a 17, .inl (cy 0, 16, .inl (fun _ => 0)))]) (w1 := [(a 18, .inr (2, [.ref (a 19), .ref (a 20), .int 0, .int 0])), (a 19, .inl (cy 0, 32, .inl (fun _ => 0))), (a 20, .inl (cy 0, 32, .inl (fun _ => 0)))]) hP hD [12, 13, 14, 27, 28, 29] [0, 1, 2, 3, 4, 5, 6, 7, 8, 9, 10, 11, 15, 16, 17, 18, 19, 20, 21, 22, 23, 24, 25, 26, 30, 31, 32, 33, 34] rfl rfl (by decide) (by decide) hk1 hFc hP1 hD1
  generalize H1 = H at hP hS ⊢
  have hP : va_P (dC, dI) vwCl ([(a 35, .inr (8, [.int 1, .int 0, .int 0, .ref (a 36), .ref (a 37), .ref (a 38), .ref (a 39), .ref (a 40), .ref (a 41), .ref (a 42), .ref (a 43), .ref (a 44), .ref (a 45), .ref (a 46), .ref (a 47), .ref (a 49), .ref (a 52)])), (a 36, .inl (cy 0, 32, .inl (va_cpy (fun _ => 0) (fun _ => 0) (Int32.toNatClampNeg 0) (Int32.toNatClampNeg 0) (Int32.toNatClampNeg 32)))), (a 37, .inl (cy 0, 192, .inl (va_cpy (fun _ => 0) (fun _ => 0) (Int32.toNatClampNeg 0) (Int32.toNatClampNeg 0) (Int32.toNatClampNeg 192)))), (a 38, .inl (cy 0, 32, .inl (va_cpy (fun _ => 0) (fun _ => 0) (Int32.toNatClampNeg 0) (Int32.toNatClampNeg 0) (Int32.toNatClampNeg 32)))), (a 39, .inl (cy 0, 32, .inl (va_cpy (fun _ => 0) (fun _ => 0) (Int32.toNatClampNeg 0) (Int32.toNatClampNeg 0) (Int32.toNatClampNeg 32)))), (a 40, .inl (cy 0, 32, .inl (va_cpy (fun _ => 0) (fun _ => 0) (Int32.toNatClampNeg 0) (Int32.toNatClampNeg 0) (Int32.toNatClampNeg 32)))), (a 41, .inl (cy 0, 32, .inl (va_cpy (fun _ => (-1)) (fun _ => (-1)) (Int32.toNatClampNeg 0) (Int32.toNatClampNeg 0) (Int32.toNatClampNeg 32)))), (a 42, .inl (cy 0, 32, .inl (va_cpy (fun _ => 0) (fun _ => 0) (Int32.toNatClampNeg 0) (Int32.toNatClampNeg 0) (Int32.toNatClampNeg 32)))), (a 43, .inl (cy 0, 192, .inl (va_cpy (fun _ => (-1)) (fun _ => (-1)) (Int32.toNatClampNeg 0) (Int32.toNatClampNeg 0) (Int32.toNatClampNeg 192)))), (a 44, .inl (cy 0, 128, .inl (va_cpy (fun _ => (-1)) (fun _ => (-1)) (Int32.toNatClampNeg 0) (Int32.toNatClampNeg 0) (Int32.toNatClampNeg 128)))), (a 45, .inl (cy 0, 32, .inl (va_cpy (fun _ => 0) (fun _ => 0) (Int32.toNatClampNeg 0) (Int32.toNatClampNeg 0) (Int32.toNatClampNeg 32)))), (a 46, .inl (cy 0, 192, .inl (va_cpy (fun _ => 0) (fun _ => 0) (Int32.toNatClampNeg 0) (Int32.toNatClampNeg 0) (Int32.toNatClampNeg 192)))), (a 1, .inr (8, [.int 1, .int 0, .int 0, .ref (a 2), .ref (a 3), .ref (a 4), .ref (a 5), .ref (a 6), .ref (a 7), .ref (a 8), .ref (a 9), .ref (a 10), .ref (a 11), .ref (a 12), .ref (a 13), .ref (a 15), .ref (a 18)])), (a 2, .inl (cy 0, 32, .inl (fun _ => 0))), (a 3, .inl (cy 0, 192, .inl (fun _ => 0))), (a 4, .inl (cy 0, 32, .inl (fun _ => 0))), (a 5, .inl (cy 0, 32, .inl (fun _ => 0))), (a 6, .inl (cy 0, 32, .inl (fun _ => 0))), (a 7, .inl (cy 0, 32, .inl (fun _ => (-1)))), (a 8, .inl (cy 0, 32, .inl (fun _ => 0))), (a 9, .inl (cy 0, 192, .inl (fun _ => (-1)))), (a 10, .inl (cy 0, 128, .inl (fun _ => (-1)))), (a 11, .inl (cy 0, 32, .inl (fun _ => 0))), (a 12, .inl (cy 0, 192, .inl (fun _ => 0))), (a 13, .inr (6, [.ref (a 14), .int 0, .int 0, .int 0])), (a 14, .inl (cy 0, 40, .inl (fun _ => 0))), (a 15, .inr (2, [.ref (a 16), .ref (a 17), .int 0, .int 0])), (a 16, .inl (cy 0, 16, .inl (fun _ => 0))), (a 17, .inl (cy 0, 16, .inl (fun _ => 0))), (a 18, .inr (2, [.ref (a 19), .ref (a 20), .int 0, .int 0])), (a 19, .inl (cy 0, 32, .inl (fun _ => 0))), (a 20, .inl (cy 0, 32, .inl (fun _ => 0)))]) H := hP
  have hD : va_D A ([(a 35, .inr (8, [.int 1, .int 0, .int 0, .ref (a 36), .ref (a 37), .ref (a 38), .ref (a 39), .ref (a 40), .ref (a 41), .ref (a 42), .ref (a 43), .ref (a 44), .ref (a 45), .ref (a 46), .ref (a 47), .ref (a 49), .ref (a 52)])), (a 36, .inl (cy 0, 32, .inl (va_cpy (fun _ => 0) (fun _ => 0) (Int32.toNatClampNeg 0) (Int32.toNatClampNeg 0) (Int32.toNatClampNeg 32)))), (a 37, .inl (cy 0, 192, .inl (va_cpy (fun _ => 0) (fun _ => 0) (Int32.toNatClampNeg 0) (Int32.toNatClampNeg 0) (Int32.toNatClampNeg 192)))), (a 38, .inl (cy 0, 32, .inl (va_cpy (fun _ => 0) (fun _ => 0) (Int32.toNatClampNeg 0) (Int32.toNatClampNeg 0) (Int32.toNatClampNeg 32)))), (a 39, .inl (cy 0, 32, .inl (va_cpy (fun _ => 0) (fun _ => 0) (Int32.toNatClampNeg 0) (Int32.toNatClampNeg 0) (Int32.toNatClampNeg 32)))), (a 40, .inl (cy 0, 32, .inl (va_cpy (fun _ => 0) (fun _ => 0) (Int32.toNatClampNeg 0) (Int32.toNatClampNeg 0) (Int32.toNatClampNeg 32)))), (a 41, .inl (cy 0, 32, .inl (va_cpy (fun _ => (-1)) (fun _ => (-1)) (Int32.toNatClampNeg 0) (Int32.toNatClampNeg 0) (Int32.toNatClampNeg 32)))), (a 42, .inl (cy 0, 32, .inl (va_cpy (fun _ => 0) (fun _ => 0) (Int32.toNatClampNeg 0) (Int32.toNatClampNeg 0) (Int32.toNatClampNeg 32)))), (a 43, .inl (cy 0, 192, .inl (va_cpy (fun _ => (-1)) (fun _ => (-1)) (Int32.toNatClampNeg 0) (Int32.toNatClampNeg 0) (Int32.toNatClampNeg 192)))), (a 44, .inl (cy 0, 128, .inl (va_cpy (fun _ => (-1)) (fun _ => (-1)) (Int32.toNatClampNeg 0) (Int32.toNatClampNeg 0) (Int32.toNatClampNeg 128)))), (a 45, .inl (cy 0, 32, .inl (va_cpy (fun _ => 0) (fun _ => 0) (Int32.toNatClampNeg 0) (Int32.toNatClampNeg 0) (Int32.toNatClampNeg 32)))), (a 46, .inl (cy 0, 192, .inl (va_cpy (fun _ => 0) (fun _ => 0) (Int32.toNatClampNeg 0) (Int32.toNatClampNeg 0) (Int32.toNatClampNeg 192)))), (a 1, .inr (8, [.int 1, .int 0, .int 0, .ref (a 2), .ref (a 3), .ref (a 4), .ref (a 5), .ref (a 6), .ref (a 7), .ref (a 8), .ref (a 9), .ref (a 10), .ref (a 11), .ref (a 12), .ref (a 13), .ref (a 15), .ref (a 18)])), (a 2, .inl (cy 0, 32, .inl (fun _ => 0))), (a 3, .inl (cy 0, 192, .inl (fun _ => 0))), (a 4, .inl (cy 0, 32, .inl (fun _ => 0))), (a 5, .inl (cy 0, 32, .inl (fun _ => 0))), (a 6, .inl (cy 0, 32, .inl (fun _ => 0))), (a 7, .inl (cy 0, 32, .inl (fun _ => (-1)))), (a 8, .inl (cy 0, 32, .inl (fun _ => 0))), (a 9, .inl (cy 0, 192, .inl (fun _ => (-1)))), (a 10, .inl (cy 0, 128, .inl (fun _ => (-1)))), (a 11, .inl (cy 0, 32, .inl (fun _ => 0))), (a 12, .inl (cy 0, 192, .inl (fun _ => 0))), (a 13, .inr (6, [.ref (a 14), .int 0, .int 0, .int 0])), (a 14, .inl (cy 0, 40, .inl (fun _ => 0))), (a 15, .inr (2, [.ref (a 16), .ref (a 17), .int 0, .int 0])), (a 16, .inl (cy 0, 16, .inl (fun _ => 0))), (a 17, .inl (cy 0, 16, .inl (fun _ => 0))), (a 18, .inr (2, [.ref (a 19), .ref (a 20), .int 0, .int 0])), (a 19, .inl (cy 0, 32, .inl (fun _ => 0))), (a 20, .inl (cy 0, 32, .inl (fun _ => 0)))]) := hD
  have hP9 := hP.sub (ws' := [(a 1, .inr (8, [.int 1, .int 0, .int 0, .ref (a 2), .ref (a 3), .ref (a 4), .ref (a 5), .ref (a 6), .ref (a 7), .ref (a 8), .ref (a 9), .ref (a 10), .ref (a 11), .ref (a 12), .ref (a 13), .ref (a 15), .ref (a 18)])), (a 2, .inl (cy 0, 32, .inl (fun _ => 0))), (a 3, .inl (cy 0, 192, .inl (fun _ => 0))), (a 4, .inl (cy 0, 32, .inl (fun _ => 0))), (a 5, .inl (cy 0, 32, .inl (fun _ => 0))), (a 6, .inl (cy 0, 32, .inl (fun _ => 0))), (a 7, .inl (cy 0, 32, .inl (fun _ => (-1)))), (a 8, .inl (cy 0, 32, .inl (fun _ => 0))), (a 9, .inl (cy 0, 192, .inl (fun _ => (-1)))), (a 10, .inl (cy 0, 128, .inl (fun _ => (-1)))), (a 11, .inl (cy 0, 32, .inl (fun _ => 0))), (a 12, .inl (cy 0, 192, .inl (fun _ => 0))), (a 13, .inr (6, [.ref (a 14), .int 0, .int 0, .int 0])), (a 14, .inl (cy 0, 40, .inl (fun _ => 0))), (a 15, .inr (2, [.ref (a 16), .ref (a 17), .int 0, .int 0])), (a 16, .inl (cy 0, 16, .inl (fun _ => 0))), (a 17, .inl (cy 0, 16, .inl (fun _ => 0))), (a 18, .inr (2, [.ref (a 19), .ref (a 20), .int 0, .int 0])), (a 19, .inl (cy 0, 32, .inl (fun _ => 0))), (a 20, .inl (cy 0, 32, .inl (fun _ => 0)))]) [12, 13, 14, 15, 16, 17, 18, 19, 20, 21, 22, 23, 24, 25, 26, 27, 28, 29, 30, 31] rfl
  have hD9 := hD.sub (ws' := [(a 1, .inr (8, [.int 1, .int 0, .int 0, .ref (a 2), .ref (a 3), .ref (a 4), .ref (a 5), .ref (a 6), .ref (a 7), .ref (a 8), .ref (a 9), .ref (a 10), .ref (a 11), .ref (a 12), .ref (a 13), .ref (a 15), .ref (a 18)])), (a 2, .inl (cy 0, 32, .inl (fun _ => 0))), (a 3, .inl (cy 0, 192, .inl (fun _ => 0))), (a 4, .inl (cy 0, 32, .inl (fun _ => 0))), (a 5, .inl (cy 0, 32, .inl (fun _ => 0))), (a 6, .inl (cy 0, 32, .inl (fun _ => 0))), (a 7, .inl (cy 0, 32, .inl (fun _ => (-1)))), (a 8, .inl (cy 0, 32, .inl (fun _ => 0))), (a 9, .inl (cy 0, 192, .inl (fun _ => (-1)))), (a 10, .inl (cy 0, 128, .inl (fun _ => (-1)))), (a 11, .inl (cy 0, 32, .inl (fun _ => 0))), (a 12, .inl (cy 0, 192, .inl (fun _ => 0))), (a 13, .inr (6, [.ref (a 14), .int 0, .int 0, .int 0])), (a 14, .inl (cy 0, 40, .inl (fun _ => 0))), (a 15, .inr (2, [.ref (a 16), .ref (a 17), .int 0, .int 0])), (a 16, .inl (cy 0, 16, .inl (fun _ => 0))), (a 17, .inl (cy 0, 16, .inl (fun _ => 0))), (a 18, .inr (2, [.ref (a 19), .ref (a 20), .int 0, .int 0])), (a 19, .inl (cy 0, 32, .inl (fun _ => 0))), (a 20, .inl (cy 0, 32, .inl (fun _ => 0)))]) [12, 13, 14, 15, 16, 17, 18, 19, 20, 21, 22, 23, 24, 25, 26, 27, 28, 29, 30, 31] (by decide) rfl
  exact W.vret hx hb hr (fun t ht hW => ⟨⟨((fun k => [].getD k 0, fun k => [].getD k (fun _ => 0), fun k => [].getD k (fun _ => none)) : uS), rfl, trivial, (by rw [ht]; exact hP9), hD9⟩, hS.F ht⟩) hS.2.2 dX8_take_226

theorem dX1_keep_0 : decode cX1_keep 0 = .ok (.aload_n 0, 1) := by decide +kernel
theorem dX1_keep_1 : decode cX1_keep 1 = .ok (.getfield 11, 3) := by decide +kernel
theorem dX1_keep_4 : decode cX1_keep 4 = .ok (.aload_n 0, 1) := by decide +kernel
theorem dX1_keep_5 : decode cX1_keep 5 = .ok (.getfield 28, 3) := by decide +kernel
theorem dX1_keep_8 : decode cX1_keep 8 = .ok (.aaload, 1) := by decide +kernel
theorem dX1_keep_9 : decode cX1_keep 9 = .ok (.aload_n 0, 1) := by decide +kernel
theorem dX1_keep_10 : decode cX1_keep 10 = .ok (.getfield 19, 3) := by decide +kernel
theorem dX1_keep_13 : decode cX1_keep 13 = .ok (.invokevirtual 31, 3) := by decide +kernel
theorem dX1_keep_16 : decode cX1_keep 16 = .ok (.aload_n 0, 1) := by decide +kernel
theorem dX1_keep_17 : decode cX1_keep 17 = .ok (.getfield 15, 3) := by decide +kernel
theorem dX1_keep_20 : decode cX1_keep 20 = .ok (.aload_n 0, 1) := by decide +kernel
theorem dX1_keep_21 : decode cX1_keep 21 = .ok (.getfield 28, 3) := by decide +kernel
theorem dX1_keep_24 : decode cX1_keep 24 = .ok (.iload_n 1, 1) := by decide +kernel
theorem dX1_keep_25 : decode cX1_keep 25 = .ok (.iastore, 1) := by decide +kernel
theorem dX1_keep_26 : decode cX1_keep 26 = .ok (.aload_n 0, 1) := by decide +kernel
theorem dX1_keep_27 : decode cX1_keep 27 = .ok (.aload_n 0, 1) := by decide +kernel
theorem dX1_keep_28 : decode cX1_keep 28 = .ok (.getfield 28, 3) := by decide +kernel
theorem dX1_keep_31 : decode cX1_keep 31 = .ok (.iconst 1, 1) := by decide +kernel
theorem dX1_keep_32 : decode cX1_keep 32 = .ok (.iadd, 1) := by decide +kernel
theorem dX1_keep_33 : decode cX1_keep 33 = .ok (.bipush 8, 2) := by decide +kernel
theorem dX1_keep_35 : decode cX1_keep 35 = .ok (.if_icmp .ge 12, 3) := by decide +kernel
theorem dX1_keep_38 : decode cX1_keep 38 = .ok (.aload_n 0, 1) := by decide +kernel
theorem dX1_keep_39 : decode cX1_keep 39 = .ok (.getfield 28, 3) := by decide +kernel
theorem dX1_keep_42 : decode cX1_keep 42 = .ok (.iconst 1, 1) := by decide +kernel
theorem dX1_keep_43 : decode cX1_keep 43 = .ok (.iadd, 1) := by decide +kernel
theorem dX1_keep_44 : decode cX1_keep 44 = .ok (.goto 4, 3) := by decide +kernel
theorem dX1_keep_48 : decode cX1_keep 48 = .ok (.putfield 28, 3) := by decide +kernel
theorem dX1_keep_51 : decode cX1_keep 51 = .ok (.aload_n 0, 1) := by decide +kernel
theorem dX1_keep_52 : decode cX1_keep 52 = .ok (.aload_n 0, 1) := by decide +kernel
theorem dX1_keep_53 : decode cX1_keep 53 = .ok (.getfield 24, 3) := by decide +kernel
theorem dX1_keep_56 : decode cX1_keep 56 = .ok (.iconst 1, 1) := by decide +kernel
theorem dX1_keep_57 : decode cX1_keep 57 = .ok (.iadd, 1) := by decide +kernel
theorem dX1_keep_58 : decode cX1_keep 58 = .ok (.bipush 8, 2) := by decide +kernel
theorem dX1_keep_60 : decode cX1_keep 60 = .ok (.invokestatic 35, 3) := by decide +kernel
theorem dX1_keep_63 : decode cX1_keep 63 = .ok (.putfield 24, 3) := by decide +kernel
theorem dX1_keep_66 : decode cX1_keep 66 = .ok (.return_, 1) := by decide +kernel
def v_X1_keep : List Cond := .code yX1_keep cX1_keep 2 none :: ([.fieldLink RX1 11 "RestBoard$History" "states" "[LRestBoard$State;", .fieldLink RX1 28 "RestBoard$History" "next" "I", .fieldLink RX1 19 "RestBoard$History" "now" "LRestBoard$State;", .fieldLink RX1 15 "RestBoard$History" "acts" "[I", .fieldLink RX1 24 "RestBoard$History" "kept" "I", .methodLink RX1 35 Lib.Math.min.name, .static Lib.Math.min.name, .initialized "java/lang/Math", .code Lib.Math.min.name Lib.Math.min.code 2 (some .int), .methodLink RX1 31 yX8_take, .instanceMethod yX8_take, .selects RX8 yX8_take yX8_take, .initialized RX8, .code yX8_take cX8_take 2 none, .fieldLink RX8 9 "RestBoard$State" "size" "I", .fieldLink RX8 83 "RestBoard$State" "resting" "I", .fieldLink RX8 86 "RestBoard$State" "raised" "I", .fieldLink RX8 15 "RestBoard$State" "values" "[I", .methodLink RX8 77 arraycopyName, .native arraycopyName, .static arraycopyName, .initialized "java/lang/System", .fieldLink RX8 19 "RestBoard$State" "packed" "[I", .fieldLink RX8 22 "RestBoard$State" "counts" "[I", .fieldLink RX8 25 "RestBoard$State" "forgotten" "[I", .fieldLink RX8 28 "RestBoard$State" "powers" "[I", .fieldLink RX8 31 "RestBoard$State" "lines" "[I", .fieldLink RX8 34 "RestBoard$State" "depths" "[I", .fieldLink RX8 37 "RestBoard$State" "wanting" "[I", .fieldLink RX8 40 "RestBoard$State" "tied" "[I", .fieldLink RX8 43 "RestBoard$State" "oldPowers" "[I", .fieldLink RX8 46 "RestBoard$State" "oldWanting" "[I", .fieldLink RX8 52 "RestBoard$State" "registers" "LRestBoard$Registers;", .fieldLink RX8 61 "RestBoard$State" "notes" "LRestBoard$Log;", .fieldLink RX8 65 "RestBoard$State" "switches" "LRestBoard$Log;", .methodLink RX8 89 yX6_take, .instanceMethod yX6_take, .selects RX6 yX6_take yX6_take, .initialized RX6, .code yX6_take cX6_take 2 none, .fieldLink RX6 9 "RestBoard$Registers" "bytes" "[I", .methodLink RX6 55 arraycopyName, .fieldLink RX6 61 "RestBoard$Registers" "select" "I", .fieldLink RX6 31 "RestBoard$Registers" "reads" "I", .fieldLink RX6 52 "RestBoard$Registers" "writes" "I", .methodLink RX8 93 yX2_take, .instanceMethod yX2_take, .selects RX2 yX2_take yX2_take, .initialized RX2, .code yX2_take cX2_take 2 none, .fieldLink RX2 9 "RestBoard$Log" "who" "[I", .methodLink RX2 25 arraycopyName, .fieldLink RX2 15 "RestBoard$Log" "what" "[I", .fieldLink RX2 22 "RestBoard$Log" "kept" "I", .fieldLink RX2 18 "RestBoard$Log" "next" "I"] ++ wsX10 ++ wsX80 ++ wsX60 ++ wsX20)
theorem m_X1_keep_0 : (.fieldLink RX1 11 "RestBoard$History" "states" "[LRestBoard$State;" : Cond) ∈ v_X1_keep := List.mem_of_getElem? (i := 1) (by decide +kernel)
theorem m_X1_keep_1 : (.fieldLink RX1 28 "RestBoard$History" "next" "I" : Cond) ∈ v_X1_keep := List.mem_of_getElem? (i := 2) (by decide +kernel)
theorem m_X1_keep_2 : (.fieldLink RX1 19 "RestBoard$History" "now" "LRestBoard$State;" : Cond) ∈ v_X1_keep := List.mem_of_getElem? (i := 3) (by decide +kernel)
theorem m_X1_keep_3 : (.fieldLink RX1 15 "RestBoard$History" "acts" "[I" : Cond) ∈ v_X1_keep := List.mem_of_getElem? (i := 4) (by decide +kernel)
theorem m_X1_keep_4 : (.fieldLink RX1 24 "RestBoard$History" "kept" "I" : Cond) ∈ v_X1_keep := List.mem_of_getElem? (i := 5) (by decide +kernel)
theorem m_X1_keep_5 : (.methodLink RX1 35 Lib.Math.min.name : Cond) ∈ v_X1_keep := List.mem_of_getElem? (i := 6) (by decide +kernel)
theorem m_X1_keep_6 : (.static Lib.Math.min.name : Cond) ∈ v_X1_keep := List.mem_of_getElem? (i := 7) (by decide +kernel)
theorem m_X1_keep_7 : (.initialized "java/lang/Math" : Cond) ∈ v_X1_keep := List.mem_of_getElem? (i := 8) (by decide +kernel)
theorem m_X1_keep_8 : (.code Lib.Math.min.name Lib.Math.min.code 2 (some .int) : Cond) ∈ v_X1_keep := List.mem_of_getElem? (i := 9) (by decide +kernel)
theorem i_X1_keep_X1 : ∀ w ∈ u_ws RX1 TX1 5, w ∈ v_X1_keep := fun w h => List.mem_cons_of_mem _ (List.mem_append_left _ (List.mem_append_left _ (List.mem_append_left _ (List.mem_append_right _ h))))
set_option maxRecDepth 100000 in
theorem gg_X1_keep_X8_take_31 : GoodIn v_X1_keep v_X8_take := goodIn_r _ [14, 15, 16, 17, 18, 19, 20, 21, 22, 23, 24, 25, 26, 27, 28, 29, 30, 31, 32, 33, 34, 35, 36, 37, 38, 39, 40, 41, 42, 43, 44, 45, 46, 47, 48, 49, 50, 51, 52, 53, 54, 55, 61, 62, 63, 64, 65, 66, 67, 68, 69, 70, 71, 72, 73, 74, 75, 76, 77, 78, 79, 80, 81, 82, 83, 84, 85] (by decide +kernel) (by decide +kernel)
set_option maxRecDepth 100000 in
theorem g_X1_keep_X8_take_31 : GoodIn v_X1_keep (wsV RX1 31 RX8 yX8_take v_X8_take) := goodIn_app (goodIn_r _ [10, 11, 12, 13] (by decide +kernel) (by decide +kernel)) gg_X1_keep_X8_take_31
set_option maxHeartbeats 4000000 in
set_option maxRecDepth 100000 in
theorem c_X1_keep (l : Launch) (dC : Nat → ClassId) (dI : Nat → Nat → Nat) (cy : Nat → ClassId) (a : Nat → Nat) (g : Nat → Nat → Option Nat) (sz : Nat) : Met l yX1_keep v_X1_keep ({ frames := 3, cells := 0, slots := 0, locals := 82 }) (va_Pc [.ref (a 32), .int 7] (ps dC dI cy ([(a 32, .inr (1, [.ref (a 1), .ref (a 33), .ref (a 34), .int 0, .int 0])), (a 33, .inl (cy 2, 8, .inr (.inr (.inr (.inr (va_up (g 1) 0 (some (a 35)))))))), (a 34, .inl (cy 0, 8, .inl (fun _ => 0))), (a 35, .inr (8, [.int 1, .int 0, .int 0, .ref (a 36), .ref (a 37), .ref (a 38), .ref (a 39), .ref (a 40), .ref (a 41), .ref (a 42), .ref (a 43), .ref (a 44), .ref (a 45), .ref (a 46), .ref (a 47), .ref (a 49), .ref (a 52)])), (a 36, .inl (cy 0, 32, .inl (fun _ => 0))), (a 37, .inl (cy 0, 192, .inl (fun _ => 0))), (a 38, .inl (cy 0, 32, .inl (fun _ => 0))), (a 39, .inl (cy 0, 32, .inl (fun _ => 0))), (a 40, .inl (cy 0, 32, .inl (fun _ => 0))), (a 41, .inl (cy 0, 32, .inl (fun _ => (-1)))), (a 42, .inl (cy 0, 32, .inl (fun _ => 0))), (a 43, .inl (cy 0, 192, .inl (fun _ => (-1)))), (a 44, .inl (cy 0, 128, .inl (fun _ => (-1)))), (a 45, .inl (cy 0, 32, .inl (fun _ => 0))), (a 46, .inl (cy 0, 192, .inl (fun _ => 0))), (a 47, .inr (6, [.ref (a 48), .int 0, .int 0, .int 0])), (a 48, .inl (cy 0, 40, .inl (fun _ => 0))), (a 49, .inr (2, [.ref (a 50), .ref (a 51), .int 0, .int 0])), (a 50, .inl (cy 0, 16, .inl (fun _ => 0))), (a 51, .inl (cy 0, 16, .inl (fun _ => 0))), (a 52, .inr (2, [.ref (a 53), .ref (a 54), .int 0, .int 0])), (a 53, .inl (cy 0, 32, .inl (fun _ => 0))), (a 54, .inl (cy 0, 32, .inl (fun _ => 0))), (a 1, .inr (8, [.int 1, .int 0, .int 0, .ref (a 2), .ref (a 3), .ref (a 4), .ref (a 5), .ref (a 6), .ref (a 7), .ref (a 8), .ref (a 9), .ref (a 10), .ref (a 11), .ref (a 12), .ref (a 13), .ref (a 15), .ref (a 18)])), (a 2, .inl (cy 0, 32, .inl (fun _ => 0))), (a 3, .inl (cy 0, 192, .inl (fun _ => 0))), (a 4, .inl (cy 0, 32, .inl (fun _ => 0))), (a 5, .inl (cy 0, 32, .inl (fun _ => 0))), (a 6, .inl (cy 0, 32, .inl (fun _ => 0))), (a 7, .inl (cy 0, 32, .inl (fun _ => (-1)))), (a 8, .inl (cy 0, 32, .inl (fun _ => 0))), (a 9, .inl (cy 0, 192, .inl (fun _ => (-1)))), (a 10, .inl (cy 0, 128, .inl (fun _ => (-1)))), (a 11, .inl (cy 0, 32, .inl (fun _ => 0))), (a 12, .inl (cy 0, 192, .inl (fun _ => 0))), (a 13, .inr (6, [.ref (a 14), .int 0, .int 0, .int 0])), (a 14, .inl (cy 0, 40, .inl (fun _ => 0))), (a 15, .inr (2, [.ref (a 16), .ref (a 17), .int 0, .int 0])), (a 16, .inl (cy 0, 16, .inl (fun _ => 0))), (a 17, .inl (cy 0, 16, .inl (fun _ => 0))), (a 18, .inr (2, [.ref (a 19), .ref (a 20), .int 0, .int 0])), (a 19, .inl (cy 0, 32, .inl (fun _ => 0))), (a 20, .inl (cy 0, 32, .inl (fun _ => 0)))]) sz)) (va_Qv (fun (_ : uS) => True) (fun (_ : uS) (t : State) => va_P (dC, dI) vwCl ([(a 1, .inr (8, [.int 1, .int 0, .int 0, .ref (a 2), .ref (a 3), .ref (a 4), .ref (a 5), .ref (a 6), .ref (a 7), .ref (a 8), .ref (a 9), .ref (a 10), .ref (a 11), .ref (a 12), .ref (a 13), .ref (a 15), .ref (a 18)])), (a 2, .inl (cy 0, 32, .inl (fun _ => 0))), (a 3, .inl (cy 0, 192, .inl (fun _ => 0))), (a 4, .inl (cy 0, 32, .inl (fun _ => 0))), (a 5, .inl (cy 0, 32, .inl (fun _ => 0))), (a 6, .inl (cy 0, 32, .inl (fun _ => 0))), (a 7, .inl (cy 0, 32, .inl (fun _ => (-1)))), (a 8, .inl (cy 0, 32, .inl (fun _ => 0))), (a 9, .inl (cy 0, 192, .inl (fun _ => (-1)))), (a 10, .inl (cy 0, 128, .inl (fun _ => (-1)))), (a 11, .inl (cy 0, 32, .inl (fun _ => 0))), (a 12, .inl (cy 0, 192, .inl (fun _ => 0))), (a 13, .inr (6, [.ref (a 14), .int 0, .int 0, .int 0])), (a 14, .inl (cy 0, 40, .inl (fun _ => 0))), (a 15, .inr (2, [.ref (a 16), .ref (a 17), .int 0, .int 0])), (a 16, .inl (cy 0, 16, .inl (fun _ => 0))), (a 17, .inl (cy 0, 16, .inl (fun _ => 0))), (a 18, .inr (2, [.ref (a 19), .ref (a 20), .int 0, .int 0])), (a 19, .inl (cy 0, 32, .inl (fun _ => 0))), (a 20, .inl (cy 0, 32, .inl (fun _ => 0)))]) t.heap ∧ va_D (va_A ([(a 32, .inr (1, [.ref (a 1), .ref (a 33), .ref (a 34), .int 0, .int 0])), (a 33, .inl (cy 2, 8, .inr (.inr (.inr (.inr (va_up (g 1) 0 (some (a 35)))))))), (a 34, .inl (cy 0, 8, .inl (fun _ => 0))), (a 35, .inr (8, [.int 1, .int 0, .int 0, .ref (a 36), .ref (a 37), .ref (a 38), .ref (a 39), .ref (a 40), .ref (a 41), .ref (a 42), .ref (a 43), .ref (a 44), .ref (a 45), .ref (a 46), .ref (a 47), .ref (a 49), .ref (a 52)])), (a 36, .inl (cy 0, 32, .inl (fun _ => 0))), (a 37, .inl (cy 0, 192, .inl (fun _ => 0))), (a 38, .inl (cy 0, 32, .inl (fun _ => 0))), (a 39, .inl (cy 0, 32, .inl (fun _ => 0))), (a 40, .inl (cy 0, 32, .inl (fun _ => 0))), (a 41, .inl (cy 0, 32, .inl (fun _ => (-1)))), (a 42, .inl (cy 0, 32, .inl (fun _ => 0))), (a 43, .inl (cy 0, 192, .inl (fun _ => (-1)))), (a 44, .inl (cy 0, 128, .inl (fun _ => (-1)))), (a 45, .inl (cy 0, 32, .inl (fun _ => 0))), (a 46, .inl (cy 0, 192, .inl (fun _ => 0))), (a 47, .inr (6, [.ref (a 48), .int 0, .int 0, .int 0])), (a 48, .inl (cy 0, 40, .inl (fun _ => 0))), (a 49, .inr (2, [.ref (a 50), .ref (a 51), .int 0, .int 0])), (a 50, .inl (cy 0, 16, .inl (fun _ => 0))), (a 51, .inl (cy 0, 16, .inl (fun _ => 0))), (a 52, .inr (2, [.ref (a 53), .ref (a 54), .int 0, .int 0])), (a 53, .inl (cy 0, 32, .inl (fun _ => 0))), (a 54, .inl (cy 0, 32, .inl (fun _ => 0))), (a 1, .inr (8, [.int 1, .int 0, .int 0, .ref (a 2), .ref (a 3), .ref (a 4), .ref (a 5), .ref (a 6), .ref (a 7), .ref (a 8), .ref (a 9), .ref (a 10), .ref (a 11), .ref (a 12), .ref (a 13), .ref (a 15), .ref (a 18)])), (a 2, .inl (cy 0, 32, .inl (fun _ => 0))), (a 3, .inl (cy 0, 192, .inl (fun _ => 0))), (a 4, .inl (cy 0, 32, .inl (fun _ => 0))), (a 5, .inl (cy 0, 32, .inl (fun _ => 0))), (a 6, .inl (cy 0, 32, .inl (fun _ => 0))), (a 7, .inl (cy 0, 32, .inl (fun _ => (-1)))), (a 8, .inl (cy 0, 32, .inl (fun _ => 0))), (a 9, .inl (cy 0, 192, .inl (fun _ => (-1)))), (a 10, .inl (cy 0, 128, .inl (fun _ => (-1)))), (a 11, .inl (cy 0, 32, .inl (fun _ => 0))), (a 12, .inl (cy 0, 192, .inl (fun _ => 0))), (a 13, .inr (6, [.ref (a 14), .int 0, .int 0, .int 0])), (a 14, .inl (cy 0, 40, .inl (fun _ => 0))), (a 15, .inr (2, [.ref (a 16), .ref (a 17), .int 0, .int 0])), (a 16, .inl (cy 0, 16, .inl (fun _ => 0))), (a 17, .inl (cy 0, 16, .inl (fun _ => 0))), (a 18, .inr (2, [.ref (a 19), .ref (a 20), .int 0, .int 0])), (a 19, .inl (cy 0, 32, .inl (fun _ => 0))), (a 20, .inl (cy 0, 32, .inl (fun _ => 0)))]) sz) ([(a 1, .inr (8, [.int 1, .int 0, .int 0, .ref (a 2), .ref (a 3), .ref (a 4), .ref (a 5), .ref (a 6), .ref (a 7), .ref (a 8), .ref (a 9), .ref (a 10), .ref (a 11), .ref (a 12), .ref (a 13), .ref (a 15), .ref (a 18)])), (a 2, .inl (cy 0, 32, .inl (fun _ => 0))), (a 3, .inl (cy 0, 192, .inl (fun _ => 0))), (a 4, .inl (cy 0, 32, .inl (fun _ => 0))), (a 5, .inl (cy 0, 32, .inl (fun _ => 0))), (a 6, .inl (cy 0, 32, .inl (fun _ => 0))), (a 7, .inl (cy 0, 32, .inl (fun _ => (-1)))), (a 8, .inl (cy 0, 32, .inl (fun _ => 0))), (a 9, .inl (cy 0, 192, .inl (fun _ => (-1)))), (a 10, .inl (cy 0, 128, .inl (fun _ => (-1)))), (a 11, .inl (cy 0, 32, .inl (fun _ => 0))), (a 12, .inl (cy 0, 192, .inl (fun _ => 0))), (a 13, .inr (6, [.ref (a 14), .int 0, .int 0, .int 0])), (a 14, .inl (cy 0, 40, .inl (fun _ => 0))), (a 15, .inr (2, [.ref (a 16), .ref (a 17), .int 0, .int 0])), (a 16, .inl (cy 0, 16, .inl (fun _ => 0))), (a 17, .inl (cy 0, 16, .inl (fun _ => 0))), (a 18, .inr (2, [.ref (a 19), .ref (a 20), .int 0, .int 0])), (a 19, .inl (cy 0, 32, .inl (fun _ => 0))), (a 20, .inl (cy 0, 32, .inl (fun _ => 0)))])) (va_A ([(a 32, .inr (1, [.ref (a 1), .ref (a 33), .ref (a 34), .int 0, .int 0])), (a 33, .inl (cy 2, 8, .inr (.inr (.inr (.inr (va_up (g 1) 0 (some (a 35)))))))), (a 34, .inl (cy 0, 8, .inl (fun _ => 0))), (a 35, .inr (8, [.int 1, .int 0, .int 0, .ref (a 36), .ref (a 37), .ref (a 38), .ref (a 39), .ref (a 40), .ref (a 41), .ref (a 42), .ref (a 43), .ref (a 44), .ref (a 45), .ref (a 46), .ref (a 47), .ref (a 49), .ref (a 52)])), (a 36, .inl (cy 0, 32, .inl (fun _ => 0))), (a 37, .inl (cy 0, 192, .inl (fun _ => 0))), (a 38, .inl (cy 0, 32, .inl (fun _ => 0))), (a 39, .inl (cy 0, 32, .inl (fun _ => 0))), (a 40, .inl (cy 0, 32, .inl (fun _ => 0))), (a 41, .inl (cy 0, 32, .inl (fun _ => (-1)))), (a 42, .inl (cy 0, 32, .inl (fun _ => 0))), (a 43, .inl (cy 0, 192, .inl (fun _ => (-1)))), (a 44, .inl (cy 0, 128, .inl (fun _ => (-1)))), (a 45, .inl (cy 0, 32, .inl (fun _ => 0))), (a 46, .inl (cy 0, 192, .inl (fun _ => 0))), (a 47, .inr (6, [.ref (a 48), .int 0, .int 0, .int 0])), (a 48, .inl (cy 0, 40, .inl (fun _ => 0))), (a 49, .inr (2, [.ref (a 50), .ref (a 51), .int 0, .int 0])), (a 50, .inl (cy 0, 16, .inl (fun _ => 0))), (a 51, .inl (cy 0, 16, .inl (fun _ => 0))), (a 52, .inr (2, [.ref (a 53), .ref (a 54), .int 0, .int 0])), (a 53, .inl (cy 0, 32, .inl (fun _ => 0))), (a 54, .inl (cy 0, 32, .inl (fun _ => 0))), (a 1, .inr (8, [.int 1, .int 0, .int 0, .ref (a 2), .ref (a 3), .ref (a 4), .ref (a 5), .ref (a 6), .ref (a 7), .ref (a 8), .ref (a 9), .ref (a 10), .ref (a 11), .ref (a 12), .ref (a 13), .ref (a 15), .ref (a 18)])), (a 2, .inl (cy 0, 32, .inl (fun _ => 0))), (a 3, .inl (cy 0, 192, .inl (fun _ => 0))), (a 4, .inl (cy 0, 32, .inl (fun _ => 0))), (a 5, .inl (cy 0, 32, .inl (fun _ => 0))), (a 6, .inl (cy 0, 32, .inl (fun _ => 0))), (a 7, .inl (cy 0, 32, .inl (fun _ => (-1)))), (a 8, .inl (cy 0, 32, .inl (fun _ => 0))), (a 9, .inl (cy 0, 192, .inl (fun _ => (-1)))), (a 10, .inl (cy 0, 128, .inl (fun _ => (-1)))), (a 11, .inl (cy 0, 32, .inl (fun _ => 0))), (a 12, .inl (cy 0, 192, .inl (fun _ => 0))), (a 13, .inr (6, [.ref (a 14), .int 0, .int 0, .int 0])), (a 14, .inl (cy 0, 40, .inl (fun _ => 0))), (a 15, .inr (2, [.ref (a 16), .ref (a 17), .int 0, .int 0])), (a 16, .inl (cy 0, 16, .inl (fun _ => 0))), (a 17, .inl (cy 0, 16, .inl (fun _ => 0))), (a 18, .inr (2, [.ref (a 19), .ref (a 20), .int 0, .int 0])), (a 19, .inl (cy 0, 32, .inl (fun _ => 0))), (a 20, .inl (cy 0, 32, .inl (fun _ => 0)))]) sz)) 0 0 (va_A ([(a 32, .inr (1, [.ref (a 1), .ref (a 33), .ref (a 34), .int 0, .int 0])), (a 33, .inl (cy 2, 8, .inr (.inr (.inr (.inr (va_up (g 1) 0 (some (a 35)))))))), (a 34, .inl (cy 0, 8, .inl (fun _ => 0))), (a 35, .inr (8, [.int 1, .int 0, .int 0, .ref (a 36), .ref (a 37), .ref (a 38), .ref (a 39), .ref (a 40), .ref (a 41), .ref (a 42), .ref (a 43), .ref (a 44), .ref (a 45), .ref (a 46), .ref (a 47), .ref (a 49), .ref (a 52)])), (a 36, .inl (cy 0, 32, .inl (fun _ => 0))), (a 37, .inl (cy 0, 192, .inl (fun _ => 0))), (a 38, .inl (cy 0, 32, .inl (fun _ => 0))), (a 39, .inl (cy 0, 32, .inl (fun _ => 0))), (a 40, .inl (cy 0, 32, .inl (fun _ => 0))), (a 41, .inl (cy 0, 32, .inl (fun _ => (-1)))), (a 42, .inl (cy 0, 32, .inl (fun _ => 0))), (a 43, .inl (cy 0, 192, .inl (fun _ => (-1)))), (a 44, .inl (cy 0, 128, .inl (fun _ => (-1)))), (a 45, .inl (cy 0, 32, .inl (fun _ => 0))), (a 46, .inl (cy 0, 192, .inl (fun _ => 0))), (a 47, .inr (6, [.ref (a 48), .int 0, .int 0, .int 0])), (a 48, .inl (cy 0, 40, .inl (fun _ => 0))), (a 49, .inr (2, [.ref (a 50), .ref (a 51), .int 0, .int 0])), (a 50, .inl (cy 0, 16, .inl (fun _ => 0))), (a 51, .inl (cy 0, 16, .inl (fun _ => 0))), (a 52, .inr (2, [.ref (a 53), .ref (a 54), .int 0, .int 0])), (a 53, .inl (cy 0, 32, .inl (fun _ => 0))), (a 54, .inl (cy 0, 32, .inl (fun _ => 0))), (a 1, .inr (8, [.int 1, .int 0, .int 0, .ref (a 2), .ref (a 3), .ref (a 4), .ref (a 5), .ref (a 6), .ref (a 7), .ref (a 8), .ref (a 9), .ref (a 10), .ref (a 11), .ref (a 12), .ref (a 13), .ref (a 15), .ref (a 18)])), (a 2, .inl (cy 0, 32, .inl (fun _ => 0))), (a 3, .inl (cy 0, 192, .inl (fun _ => 0))), (a 4, .inl (cy 0, 32, .inl (fun _ => 0))), (a 5, .inl (cy 0, 32, .inl (fun _ => 0))), (a 6, .inl (cy 0, 32, .inl (fun _ => 0))), (a 7, .inl (cy 0, 32, .inl (fun _ => (-1)))), (a 8, .inl (cy 0, 32, .inl (fun _ => 0))), (a 9, .inl (cy 0, 192, .inl (fun _ => (-1)))), (a 10, .inl (cy 0, 128, .inl (fun _ => (-1)))), (a 11, .inl (cy 0, 32, .inl (fun _ => 0))), (a 12, .inl (cy 0, 192, .inl (fun _ => 0))), (a 13, .inr (6, [.ref (a 14), .int 0, .int 0, .int 0])), (a 14, .inl (cy 0, 40, .inl (fun _ => 0))), (a 15, .inr (2, [.ref (a 16), .ref (a 17), .int 0, .int 0])), (a 16, .inl (cy 0, 16, .inl (fun _ => 0))), (a 17, .inl (cy 0, 16, .inl (fun _ => 0))), (a 18, .inr (2, [.ref (a 19), .ref (a 20), .int 0, .int 0])), (a 19, .inl (cy 0, 32, .inl (fun _ => 0))), (a 20, .inl (cy 0, 32, .inl (fun _ => 0)))]) sz) := by
  refine Met.ofW (cc := cX1_keep) (maxL := 2) (ret := none) (by decide) rfl ?_
  intro p e s m args below meth c s₁ B hml hv
  obtain ⟨rfl, hsz, hP, hC, hD0⟩ := hv
  have hK := hC.1
  have hx := B.exec
  have hb := B.bytes
  have hr := B.returns
  have hts := atoms_spec (ws := v_X1_keep) B.pre
  have hown : s.vm.findClass RX1 = some m.cls := findClass_of_methodNamed B.named
  have hlocks := B.notSynchronized
  subst hsz
  have hD := hD0.self (sz := s.heap.size)
  generalize hAe : va_A ([(a 32, .inr (1, [.ref (a 1), .ref (a 33), .ref (a 34), .int 0, .int 0])), (a 33, .inl (cy 2, 8, .inr (.inr (.inr (.inr (va_up (g 1) 0 (some (a 35)))))))), (a 34, .inl (cy 0, 8, .inl (fun _ => 0))), (a 35, .inr (8, [.int 1, .int 0, .int 0, .ref (a 36), .ref (a 37), .ref (a 38), .ref (a 39), .ref (a 40), .ref (a 41), .ref (a 42), .ref (a 43), .ref (a 44), .ref (a 45), .ref (a 46), .ref (a 47), .ref (a 49), .ref (a 52)])), (a 36, .inl (cy 0, 32, .inl (fun _ => 0))), (a 37, .inl (cy 0, 192, .inl (fun _ => 0))), (a 38, .inl (cy 0, 32, .inl (fun _ => 0))), (a 39, .inl (cy 0, 32, .inl (fun _ => 0))), (a 40, .inl (cy 0, 32, .inl (fun _ => 0))), (a 41, .inl (cy 0, 32, .inl (fun _ => (-1)))), (a 42, .inl (cy 0, 32, .inl (fun _ => 0))), (a 43, .inl (cy 0, 192, .inl (fun _ => (-1)))), (a 44, .inl (cy 0, 128, .inl (fun _ => (-1)))), (a 45, .inl (cy 0, 32, .inl (fun _ => 0))), (a 46, .inl (cy 0, 192, .inl (fun _ => 0))), (a 47, .inr (6, [.ref (a 48), .int 0, .int 0, .int 0])), (a 48, .inl (cy 0, 40, .inl (fun _ => 0))), (a 49, .inr (2, [.ref (a 50), .ref (a 51), .int 0, .int 0])), (a 50, .inl (cy 0, 16, .inl (fun _ => 0))), (a 51, .inl (cy 0, 16, .inl (fun _ => 0))), (a 52, .inr (2, [.ref (a 53), .ref (a 54), .int 0, .int 0])), (a 53, .inl (cy 0, 32, .inl (fun _ => 0))), (a 54, .inl (cy 0, 32, .inl (fun _ => 0))), (a 1, .inr (8, [.int 1, .int 0, .int 0, .ref (a 2), .ref (a 3), .ref (a 4), .ref (a 5), .ref (a 6), .ref (a 7), .ref (a 8), .ref (a 9), .ref (a 10), .ref (a 11), .ref (a 12), .ref (a 13), .ref (a 15), .ref (a 18)])), (a 2, .inl (cy 0, 32, .inl (fun _ => 0))), (a 3, .inl (cy 0, 192, .inl (fun _ => 0))), (a 4, .inl (cy 0, 32, .inl (fun _ => 0))), (a 5, .inl (cy 0, 32, .inl (fun _ => 0))), (a 6, .inl (cy 0, 32, .inl (fun _ => 0))), (a 7, .inl (cy 0, 32, .inl (fun _ => (-1)))), (a 8, .inl (cy 0, 32, .inl (fun _ => 0))), (a 9, .inl (cy 0, 192, .inl (fun _ => (-1)))), (a 10, .inl (cy 0, 128, .inl (fun _ => (-1)))), (a 11, .inl (cy 0, 32, .inl (fun _ => 0))), (a 12, .inl (cy 0, 192, .inl (fun _ => 0))), (a 13, .inr (6, [.ref (a 14), .int 0, .int 0, .int 0])), (a 14, .inl (cy 0, 40, .inl (fun _ => 0))), (a 15, .inr (2, [.ref (a 16), .ref (a 17), .int 0, .int 0])), (a 16, .inl (cy 0, 16, .inl (fun _ => 0))), (a 17, .inl (cy 0, 16, .inl (fun _ => 0))), (a 18, .inr (2, [.ref (a 19), .ref (a 20), .int 0, .int 0])), (a 19, .inl (cy 0, 32, .inl (fun _ => 0))), (a 20, .inl (cy 0, 32, .inl (fun _ => 0)))]) s.heap.size = A at hD ⊢
  have hA : ∀ q : Nat, s.heap.size ≤ q → A q := fun q h => by rw [← hAe]; exact Or.inr h
  have hS : va_S A s.heap s.heap [] := va_S.rf
  have hl := lv_entry ([.ref (a 32), .int 7]) (n := 2) (Nat.le_of_ble_eq_true rfl)
  rw [lg_entry_eq]
  generalize (lg_sl ([.ref (a 32), .int 7]) ++ List.replicate (2 - (lg_sl ([.ref (a 32), .int 7])).length) Slot.unset).toArray = ls at hl ⊢
  have hl : lv_has ls 2 [(0, .ref (a 32)), (1, .int 7)] := hl
  refine lv_aload_n hx hb dX1_keep_0 rfl (lv_at hl 0 rfl) ?_
  refine va_get (D := (dC, dI)) (ci := 1) (v := .ref (a 33)) (C := RX1) (T := TX1) (N := 5) hx hb hts i_X1_keep_X1 hown hK hP 0 rfl rfl 1 (by decide) (hts _ m_X1_keep_0) (fun _ h9 => h9) rfl dX1_keep_1 ?_
  refine lv_aload_n hx hb dX1_keep_4 rfl (lv_at hl 0 rfl) ?_
  refine va_get (D := (dC, dI)) (ci := 1) (v := .int 0) (C := RX1) (T := TX1) (N := 5) hx hb hts i_X1_keep_X1 hown hK hP 0 rfl rfl 4 (by decide) (hts _ m_X1_keep_1) (fun _ h9 => h9) rfl dX1_keep_5 ?_
  refine va_aldq hx hb hK hP 1 2 rfl rfl (show ¬ ((0 : Int32) < 0 ∨ 8 ≤ Int32.toNatClampNeg 0) by decide) dX1_keep_8 ?_
  refine tk_v (.ref (a 35)) (by rfl) ?_
  refine lv_aload_n hx hb dX1_keep_9 rfl (lv_at hl 0 rfl) ?_
  refine va_get (D := (dC, dI)) (ci := 1) (v := .ref (a 1)) (C := RX1) (T := TX1) (N := 5) hx hb hts i_X1_keep_X1 hown hK hP 0 rfl rfl 0 (by decide) (hts _ m_X1_keep_2) (fun _ h9 => h9) rfl dX1_keep_10 ?_
  have hPc : va_P (dC, dI) vwCl ([(a 35, .inr (8, [.int 1, .int 0, .int 0, .ref (a 36), .ref (a 37), .ref (a 38), .ref (a 39), .ref (a 40), .ref (a 41), .ref (a 42), .ref (a 43), .ref (a 44), .ref (a 45), .ref (a 46), .ref (a 47), .ref (a 49), .ref (a 52)])), (a 36, .inl (cy 0, 32, .inl (fun _ => 0))), (a 37, .inl (cy 0, 192, .inl (fun _ => 0))), (a 38, .inl (cy 0, 32, .inl (fun _ => 0))), (a 39, .inl (cy 0, 32, .inl (fun _ => 0))), (a 40, .inl (cy 0, 32, .inl (fun _ => 0))), (a 41, .inl (cy 0, 32, .inl (fun _ => (-1)))), (a 42, .inl (cy 0, 32, .inl (fun _ => 0))), (a 43, .inl (cy 0, 192, .inl (fun _ => (-1)))), (a 44, .inl (cy 0, 128, .inl (fun _ => (-1)))), (a 45, .inl (cy 0, 32, .inl (fun _ => 0))), (a 46, .inl (cy 0, 192, .inl (fun _ => 0))), (a 47, .inr (6, [.ref (a 48), .int 0, .int 0, .int 0])), (a 48, .inl (cy 0, 40, .inl (fun _ => 0))), (a 49, .inr (2, [.ref (a 50), .ref (a 51), .int 0, .int 0])), (a 50, .inl (cy 0, 16, .inl (fun _ => 0))), (a 51, .inl (cy 0, 16, .inl (fun _ => 0))), (a 52, .inr (2, [.ref (a 53), .ref (a 54), .int 0, .int 0])), (a 53, .inl (cy 0, 32, .inl (fun _ => 0))), (a 54, .inl (cy 0, 32, .inl (fun _ => 0))), (a 1, .inr (8, [.int 1, .int 0, .int 0, .ref (a 2), .ref (a 3), .ref (a 4), .ref (a 5), .ref (a 6), .ref (a 7), .ref (a 8), .ref (a 9), .ref (a 10), .ref (a 11), .ref (a 12), .ref (a 13), .ref (a 15), .ref (a 18)])), (a 2, .inl (cy 0, 32, .inl (fun _ => 0))), (a 3, .inl (cy 0, 192, .inl (fun _ => 0))), (a 4, .inl (cy 0, 32, .inl (fun _ => 0))), (a 5, .inl (cy 0, 32, .inl (fun _ => 0))), (a 6, .inl (cy 0, 32, .inl (fun _ => 0))), (a 7, .inl (cy 0, 32, .inl (fun _ => (-1)))), (a 8, .inl (cy 0, 32, .inl (fun _ => 0))), (a 9, .inl (cy 0, 192, .inl (fun _ => (-1)))), (a 10, .inl (cy 0, 128, .inl (fun _ => (-1)))), (a 11, .inl (cy 0, 32, .inl (fun _ => 0))), (a 12, .inl (cy 0, 192, .inl (fun _ => 0))), (a 13, .inr (6, [.ref (a 14), .int 0, .int 0, .int 0])), (a 14, .inl (cy 0, 40, .inl (fun _ => 0))), (a 15, .inr (2, [.ref (a 16), .ref (a 17), .int 0, .int 0])), (a 16, .inl (cy 0, 16, .inl (fun _ => 0))), (a 17, .inl (cy 0, 16, .inl (fun _ => 0))), (a 18, .inr (2, [.ref (a 19), .ref (a 20), .int 0, .int 0])), (a 19, .inl (cy 0, 32, .inl (fun _ => 0))), (a 20, .inl (cy 0, 32, .inl (fun _ => 0)))]) _ := hP.sub [3, 4, 5, 6, 7, 8, 9, 10, 11, 12, 13, 14, 15, 16, 17, 18, 19, 20, 21, 22, 23, 24, 25, 26, 27, 28, 29, 30, 31, 32, 33, 34, 35, 36, 37, 38, 39, 40, 41, 42] rfl
  have hDc := hD.sub (ws' := [(a 35, .inr (8, [.int 1, .int 0, .int 0, .ref (a 36), .ref (a 37), .ref (a 38), .ref (a 39), .ref (a 40), .ref (a 41), .ref (a 42), .ref (a 43), .ref (a 44), .ref (a 45), .ref (a 46), .ref (a 47), .ref (a 49), .ref (a 52)])), (a 36, .inl (cy 0, 32, .inl (fun _ => 0))), (a 37, .inl (cy 0, 192, .inl (fun _ => 0))), (a 38, .inl (cy 0, 32, .inl (fun _ => 0))), (a 39, .inl (cy 0, 32, .inl (fun _ => 0))), (a 40, .inl (cy 0, 32, .inl (fun _ => 0))), (a 41, .inl (cy 0, 32, .inl (fun _ => (-1)))), (a 42, .inl (cy 0, 32, .inl (fun _ => 0))), (a 43, .inl (cy 0, 192, .inl (fun _ => (-1)))), (a 44, .inl (cy 0, 128, .inl (fun _ => (-1)))), (a 45, .inl (cy 0, 32, .inl (fun _ => 0))), (a 46, .inl (cy 0, 192, .inl (fun _ => 0))), (a 47, .inr (6, [.ref (a 48), .int 0, .int 0, .int 0])), (a 48, .inl (cy 0, 40, .inl (fun _ => 0))), (a 49, .inr (2, [.ref (a 50), .ref (a 51), .int 0, .int 0])), (a 50, .inl (cy 0, 16, .inl (fun _ => 0))), (a 51, .inl (cy 0, 16, .inl (fun _ => 0))), (a 52, .inr (2, [.ref (a 53), .ref (a 54), .int 0, .int 0])), (a 53, .inl (cy 0, 32, .inl (fun _ => 0))), (a 54, .inl (cy 0, 32, .inl (fun _ => 0))), (a 1, .inr (8, [.int 1, .int 0, .int 0, .ref (a 2), .ref (a 3), .ref (a 4), .ref (a 5), .ref (a 6), .ref (a 7), .ref (a 8), .ref (a 9), .ref (a 10), .ref (a 11), .ref (a 12), .ref (a 13), .ref (a 15), .ref (a 18)])), (a 2, .inl (cy 0, 32, .inl (fun _ => 0))), (a 3, .inl (cy 0, 192, .inl (fun _ => 0))), (a 4, .inl (cy 0, 32, .inl (fun _ => 0))), (a 5, .inl (cy 0, 32, .inl (fun _ => 0))), (a 6, .inl (cy 0, 32, .inl (fun _ => 0))), (a 7, .inl (cy 0, 32, .inl (fun _ => (-1)))), (a 8, .inl (cy 0, 32, .inl (fun _ => 0))), (a 9, .inl (cy 0, 192, .inl (fun _ => (-1)))), (a 10, .inl (cy 0, 128, .inl (fun _ => (-1)))), (a 11, .inl (cy 0, 32, .inl (fun _ => 0))), (a 12, .inl (cy 0, 192, .inl (fun _ => 0))), (a 13, .inr (6, [.ref (a 14), .int 0, .int 0, .int 0])), (a 14, .inl (cy 0, 40, .inl (fun _ => 0))), (a 15, .inr (2, [.ref (a 16), .ref (a 17), .int 0, .int 0])), (a 16, .inl (cy 0, 16, .inl (fun _ => 0))), (a 17, .inl (cy 0, 16, .inl (fun _ => 0))), (a 18, .inr (2, [.ref (a 19), .ref (a 20), .int 0, .int 0])), (a 19, .inl (cy 0, 32, .inl (fun _ => 0))), (a 20, .inl (cy 0, 32, .inl (fun _ => 0)))]) [3, 4, 5, 6, 7, 8, 9, 10, 11, 12, 13, 14, 15, 16, 17, 18, 19, 20, 21, 22, 23, 24, 25, 26, 27, 28, 29, 30, 31, 32, 33, 34, 35, 36, 37, 38, 39, 40, 41, 42] (by decide) rfl
  have hFc := va_free (wc := [(a 35, .inr (8, [.int 1, .int 0, .int 0, .ref (a 36), .ref (a 37), .ref (a 38), .ref (a 39), .ref (a 40), .ref (a 41), .ref (a 42), .ref (a 43), .ref (a 44), .ref (a 45), .ref (a 46), .ref (a 47), .ref (a 49), .ref (a 52)])), (a 36, .inl (cy 0, 32, .inl (fun _ => 0))), (a 37, .inl (cy 0, 192, .inl (fun _ => 0))), (a 38, .inl (cy 0, 32, .inl (fun _ => 0))), (a 39, .inl (cy 0, 32, .inl (fun _ => 0))), (a 40, .inl (cy 0, 32, .inl (fun _ => 0))), (a 41, .inl (cy 0, 32, .inl (fun _ => (-1)))), (a 42, .inl (cy 0, 32, .inl (fun _ => 0))), (a 43, .inl (cy 0, 192, .inl (fun _ => (-1)))), (a 44, .inl (cy 0, 128, .inl (fun _ => (-1)))), (a 45, .inl (cy 0, 32, .inl (fun _ => 0))), (a 46, .inl (cy 0, 192, .inl (fun _ => 0))), (a 47, .inr (6, [.ref (a 48), .int 0, .int 0, .int 0])), (a 48, .inl (cy 0, 40, .inl (fun _ => 0))), (a 49, .inr (2, [.ref (a 50), .ref (a 51), .int 0, .int 0])), (a 50, .inl (cy 0, 16, .inl (fun _ => 0))), (a 51, .inl (cy 0, 16, .inl (fun _ => 0))), (a 52, .inr (2, [.ref (a 53), .ref (a 54), .int 0, .int 0])), (a 53, .inl (cy 0, 32, .inl (fun _ => 0))), (a 54, .inl (cy 0, 32, .inl (fun _ => 0))), (a 1, .inr (8, [.int 1, .int 0, .int 0, .ref (a 2), .ref (a 3), .ref (a 4), .ref (a 5), .ref (a 6), .ref (a 7), .ref (a 8), .ref (a 9), .ref (a 10), .ref (a 11), .ref (a 12), .ref (a 13), .ref (a 15), .ref (a 18)])), (a 2, .inl (cy 0, 32, .inl (fun _ => 0))), (a 3, .inl (cy 0, 192, .inl (fun _ => 0))), (a 4, .inl (cy 0, 32, .inl (fun _ => 0))), (a 5, .inl (cy 0, 32, .inl (fun _ => 0))), (a 6, .inl (cy 0, 32, .inl (fun _ => 0))), (a 7, .inl (cy 0, 32, .inl (fun _ => (-1)))), (a 8, .inl (cy 0, 32, .inl (fun _ => 0))), (a 9, .inl (cy 0, 192, .inl (fun _ => (-1)))), (a 10, .inl (cy 0, 128, .inl (fun _ => (-1)))), (a 11, .inl (cy 0, 32, .inl (fun _ => 0))), (a 12, .inl (cy 0, 192, .inl (fun _ => 0))), (a 13, .inr (6, [.ref (a 14), .int 0, .int 0, .int 0])), (a 14, .inl (cy 0, 40, .inl (fun _ => 0))), (a 15, .inr (2, [.ref (a 16), .ref (a 17), .int 0, .int 0])), (a 16, .inl (cy 0, 16, .inl (fun _ => 0))), (a 17, .inl (cy 0, 16, .inl (fun _ => 0))), (a 18, .inr (2, [.ref (a 19), .ref (a 20), .int 0, .int 0])), (a 19, .inl (cy 0, 32, .inl (fun _ => 0))), (a 20, .inl (cy 0, 32, .inl (fun _ => 0)))]) hD hS hA [3, 4, 5, 6, 7, 8, 9, 10, 11, 12, 13, 14, 15, 16, 17, 18, 19, 20, 21, 22, 23, 24, 25, 26, 27, 28, 29, 30, 31, 32, 33, 34, 35, 36, 37, 38, 39, 40, 41, 42] rfl
  refine va_callv (va_runV (As := [.ref (a 1)]) (rest := []) ⟨hx, hb, hml, hown, hts⟩ (c_X8_take l dC dI cy a g _) (cwV 1 hts g_X1_keep_X8_take_31 rfl rfl rfl (by decide +kernel) ⟨Nat.le_of_ble_eq_true rfl, Nat.le_of_ble_eq_true rfl⟩) (pv_ps hC hPc hDc (ci := 8) (q0 := 0) rfl rfl) rfl rfl hl.1 rfl (lv_room (Nat.le_of_ble_eq_true rfl)) dX1_keep_13 ⟨Nat.le_of_ble_eq_true rfl, Nat.le_of_ble_eq_true rfl⟩) hS (fun q _ h => hFc q h) hFc (fun u t_ H1 locs ht hvm hw hB hz1 hk1 hS => ?_)
  obtain ⟨u1_, rfl⟩ : ∃ z, z = u := ⟨_, rfl⟩
  obtain ⟨hP1, hD1⟩ := hB
  rw [ht] at hP1
  obtain ⟨hP, hD⟩ := va_join (wr := [(a 32, .inr (1, [.ref (a 1), .ref (a 33), .ref (a 34), .int 0, .int 0])), (a 33, .inl (cy 2, 8, .inr (.inr (.inr (.inr (va_up (g 1) 0 (some (a 35)))))))), (a 34, .inl (cy 0, 8, .inl (fun _ => 0)))]) (w1 := [(a 1, .inr (8, [.int 1, .int 0, .int 0, .ref (a 2), .ref (a 3), .ref (a 4), .ref (a 5), .ref (a 6), .ref (a 7), .ref (a 8), .ref (a 9), .ref (a 10), .ref (a 11), .ref (a 12), .ref (a 13), .ref (a 15), .ref (a 18)])), (a 2, .inl (cy 0, 32, .inl (fun _ => 0))), (a 3, .inl (cy 0, 192, .inl (fun _ => 0))), (a 4, .inl (cy 0, 32, .inl (fun _ => 0))), (a 5, .inl (cy 0, 32, .inl (fun _ => 0))), (a 6, .inl (cy 0, 32, .inl (fun _ => 0))), (a 7, .inl (cy 0, 32, .inl (fun _ => (-1)))), (a 8, .inl (cy 0, 32, .inl (fun _ => 0))), (a 9, .inl (cy 0, 192, .inl (fun _ => (-1)))), (a 10, .inl (cy 0, 128, .inl (fun _ => (-1)))), (a 11, .inl (cy 0, 32, .inl (fun _ => 0))), (a 12, .inl (cy 0, 192, .inl (fun _ => 0))), (a 13, .inr (6, [.ref (a 14), .int 0, .int 0, .int 0])), (a 14, .inl (cy 0, 40, .inl (fun _ => 0))), (a 15, .inr (2, [.ref (a 16), .ref (a 17), .int 0, .int 0])), (a 16, .inl (cy 0, 16, .inl (fun _ => 0))), (a 17, .inl (cy 0, 16, .inl (fun _ => 0))), (a 18, .inr (2, [.ref (a 19), .ref (a 20), .int 0, .int 0])), (a 19, .inl (cy 0, 32, .inl (fun _ => 0))), (a 20, .inl (cy 0, 32, .inl (fun _ => 0)))]) hP hD [3, 4, 5, 6, 7, 8, 9, 10, 11, 12, 13, 14, 15, 16, 17, 18, 19, 20, 21, 22, 23, 24, 25, 26, 27, 28, 29, 30, 31, 32, 33, 34, 35, 36, 37, 38, 39, 40, 41, 42] [0, 1, 2] rfl rfl (by decide) (by decide) hk1 hFc hP1 hD1
  generalize H1 = H at hP hS ⊢
  have hP : va_P (dC, dI) vwCl ([(a 32, .inr (1, [.ref (a 1), .ref (a 33), .ref (a 34), .int 0, .int 0])), (a 33, .inl (cy 2, 8, .inr (.inr (.inr (.inr (va_up (g 1) 0 (some (a 35)))))))), (a 34, .inl (cy 0, 8, .inl (fun _ => 0))), (a 1, .inr (8, [.int 1, .int 0, .int 0, .ref (a 2), .ref (a 3), .ref (a 4), .ref (a 5), .ref (a 6), .ref (a 7), .ref (a 8), .ref (a 9), .ref (a 10), .ref (a 11), .ref (a 12), .ref (a 13), .ref (a 15), .ref (a 18)])), (a 2, .inl (cy 0, 32, .inl (fun _ => 0))), (a 3, .inl (cy 0, 192, .inl (fun _ => 0))), (a 4, .inl (cy 0, 32, .inl (fun _ => 0))), (a 5, .inl (cy 0, 32, .inl (fun _ => 0))), (a 6, .inl (cy 0, 32, .inl (fun _ => 0))), (a 7, .inl (cy 0, 32, .inl (fun _ => (-1)))), (a 8, .inl (cy 0, 32, .inl (fun _ => 0))), (a 9, .inl (cy 0, 192, .inl (fun _ => (-1)))), (a 10, .inl (cy 0, 128, .inl (fun _ => (-1)))), (a 11, .inl (cy 0, 32, .inl (fun _ => 0))), (a 12, .inl (cy 0, 192, .inl (fun _ => 0))), (a 13, .inr (6, [.ref (a 14), .int 0, .int 0, .int 0])), (a 14, .inl (cy 0, 40, .inl (fun _ => 0))), (a 15, .inr (2, [.ref (a 16), .ref (a 17), .int 0, .int 0])), (a 16, .inl (cy 0, 16, .inl (fun _ => 0))), (a 17, .inl (cy 0, 16, .inl (fun _ => 0))), (a 18, .inr (2, [.ref (a 19), .ref (a 20), .int 0, .int 0])), (a 19, .inl (cy 0, 32, .inl (fun _ => 0))), (a 20, .inl (cy 0, 32, .inl (fun _ => 0)))]) H := hP
  have hD : va_D A ([(a 32, .inr (1, [.ref (a 1), .ref (a 33), .ref (a 34), .int 0, .int 0])), (a 33, .inl (cy 2, 8, .inr (.inr (.inr (.inr (va_up (g 1) 0 (some (a 35)))))))), (a 34, .inl (cy 0, 8, .inl (fun _ => 0))), (a 1, .inr (8, [.int 1, .int 0, .int 0, .ref (a 2), .ref (a 3), .ref (a 4), .ref (a 5), .ref (a 6), .ref (a 7), .ref (a 8), .ref (a 9), .ref (a 10), .ref (a 11), .ref (a 12), .ref (a 13), .ref (a 15), .ref (a 18)])), (a 2, .inl (cy 0, 32, .inl (fun _ => 0))), (a 3, .inl (cy 0, 192, .inl (fun _ => 0))), (a 4, .inl (cy 0, 32, .inl (fun _ => 0))), (a 5, .inl (cy 0, 32, .inl (fun _ => 0))), (a 6, .inl (cy 0, 32, .inl (fun _ => 0))), (a 7, .inl (cy 0, 32, .inl (fun _ => (-1)))), (a 8, .inl (cy 0, 32, .inl (fun _ => 0))), (a 9, .inl (cy 0, 192, .inl (fun _ => (-1)))), (a 10, .inl (cy 0, 128, .inl (fun _ => (-1)))), (a 11, .inl (cy 0, 32, .inl (fun _ => 0))), (a 12, .inl (cy 0, 192, .inl (fun _ => 0))), (a 13, .inr (6, [.ref (a 14), .int 0, .int 0, .int 0])), (a 14, .inl (cy 0, 40, .inl (fun _ => 0))), (a 15, .inr (2, [.ref (a 16), .ref (a 17), .int 0, .int 0])), (a 16, .inl (cy 0, 16, .inl (fun _ => 0))), (a 17, .inl (cy 0, 16, .inl (fun _ => 0))), (a 18, .inr (2, [.ref (a 19), .ref (a 20), .int 0, .int 0])), (a 19, .inl (cy 0, 32, .inl (fun _ => 0))), (a 20, .inl (cy 0, 32, .inl (fun _ => 0)))]) := hD
  refine lv_aload_n hx hb dX1_keep_16 rfl (lv_at hl 0 rfl) ?_
  refine va_get (D := (dC, dI)) (ci := 1) (v := .ref (a 34)) (C := RX1) (T := TX1) (N := 5) hx hb hts i_X1_keep_X1 hown hK hP 0 rfl rfl 2 (by decide) (hts _ m_X1_keep_3) (fun _ h9 => h9) rfl dX1_keep_17 ?_
  refine lv_aload_n hx hb dX1_keep_20 rfl (lv_at hl 0 rfl) ?_
  refine va_get (D := (dC, dI)) (ci := 1) (v := .int 0) (C := RX1) (T := TX1) (N := 5) hx hb hts i_X1_keep_X1 hown hK hP 0 rfl rfl 4 (by decide) (hts _ m_X1_keep_1) (fun _ h9 => h9) rfl dX1_keep_21 ?_
  refine lv_iload_n hx hb dX1_keep_24 rfl (lv_at hl 1 rfl) ?_
  refine va_iast hx hb hK hP hD hS 2 0 rfl rfl (show ¬ ((0 : Int32) < 0 ∨ 8 ≤ Int32.toNatClampNeg 0) by decide) dX1_keep_25 (fun H locs hP hD hS => ?_)
  refine lv_aload_n hx hb dX1_keep_26 rfl (lv_at hl 0 rfl) ?_
  refine lv_aload_n hx hb dX1_keep_27 rfl (lv_at hl 0 rfl) ?_
  refine va_get (D := (dC, dI)) (ci := 1) (v := .int 0) (C := RX1) (T := TX1) (N := 5) hx hb hts i_X1_keep_X1 hown hK hP 0 rfl rfl 4 (by decide) (hts _ m_X1_keep_1) (fun _ h9 => h9) rfl dX1_keep_28 ?_
  refine lv_iconst (v := 1) hx hb dX1_keep_31 (by decide) ?_
  refine lv_iadd hx hb dX1_keep_32 ?_
  refine tk_i 1 (by decide) ?_
  refine lv_bipush (v := 8) hx hb dX1_keep_33 (by decide) ?_
  refine lv_icmp_ge (tgt := 47) hx hb dX1_keep_35 (by decide) (fun c9_ => absurd c9_ (by decide)) (fun _ => ?_)
  refine lv_aload_n hx hb dX1_keep_38 rfl (lv_at hl 0 rfl) ?_
  refine va_get (D := (dC, dI)) (ci := 1) (v := .int 0) (C := RX1) (T := TX1) (N := 5) hx hb hts i_X1_keep_X1 hown hK hP 0 rfl rfl 4 (by decide) (hts _ m_X1_keep_1) (fun _ h9 => h9) rfl dX1_keep_39 ?_
  refine lv_iconst (v := 1) hx hb dX1_keep_42 (by decide) ?_
  refine lv_iadd hx hb dX1_keep_43 ?_
  refine tk_i 1 (by decide) ?_
  refine lv_goto (tgt := 48) hx hb dX1_keep_44 (by decide) ?_
  refine va_put (D := (dC, dI)) (ci := 1) (v := .int 1) (ty := .int) (C := RX1) (T := TX1) (N := 5) hx hb hts i_X1_keep_X1 tyX1 tyX1_ok nmX1 hown hK hP hD hS 0 rfl rfl 4 (by decide) (hts _ m_X1_keep_1) (fun _ h9 => h9) rfl (by decide +kernel) rfl rfl (Nat.le_of_ble_eq_true rfl) dX1_keep_48 (fun H locs hP hD hS => ?_)
  refine lv_aload_n hx hb dX1_keep_51 rfl (lv_at hl 0 rfl) ?_
  refine lv_aload_n hx hb dX1_keep_52 rfl (lv_at hl 0 rfl) ?_
  refine va_get (D := (dC, dI)) (ci := 1) (v := .int 0) (C := RX1) (T := TX1) (N := 5) hx hb hts i_X1_keep_X1 hown hK hP 0 rfl rfl 3 (by decide) (hts _ m_X1_keep_4) (fun _ h9 => h9) rfl dX1_keep_53 ?_
  refine lv_iconst (v := 1) hx hb dX1_keep_56 (by decide) ?_
  refine lv_iadd hx hb dX1_keep_57 ?_
  refine tk_i 1 (by decide) ?_
  refine lv_bipush (v := 8) hx hb dX1_keep_58 (by decide) ?_
  refine va_mmin hx hb (hml.trans hl.1.symm) hown (hts _ m_X1_keep_5) (hts _ m_X1_keep_6) (hts _ m_X1_keep_7) (hts _ m_X1_keep_8) (Nat.le_of_ble_eq_true rfl) (Nat.le_of_ble_eq_true rfl) (Nat.le_of_ble_eq_true rfl) (Nat.le_of_ble_eq_true rfl) dX1_keep_60 ?_
  refine tk_i 1 (by decide) ?_
  refine va_put (D := (dC, dI)) (ci := 1) (v := .int 1) (ty := .int) (C := RX1) (T := TX1) (N := 5) hx hb hts i_X1_keep_X1 tyX1 tyX1_ok nmX1 hown hK hP hD hS 0 rfl rfl 3 (by decide) (hts _ m_X1_keep_4) (fun _ h9 => h9) rfl (by decide +kernel) rfl rfl (Nat.le_of_ble_eq_true rfl) dX1_keep_63 (fun H locs hP hD hS => ?_)
  have hP9 := hP.sub (ws' := [(a 1, .inr (8, [.int 1, .int 0, .int 0, .ref (a 2), .ref (a 3), .ref (a 4), .ref (a 5), .ref (a 6), .ref (a 7), .ref (a 8), .ref (a 9), .ref (a 10), .ref (a 11), .ref (a 12), .ref (a 13), .ref (a 15), .ref (a 18)])), (a 2, .inl (cy 0, 32, .inl (fun _ => 0))), (a 3, .inl (cy 0, 192, .inl (fun _ => 0))), (a 4, .inl (cy 0, 32, .inl (fun _ => 0))), (a 5, .inl (cy 0, 32, .inl (fun _ => 0))), (a 6, .inl (cy 0, 32, .inl (fun _ => 0))), (a 7, .inl (cy 0, 32, .inl (fun _ => (-1)))), (a 8, .inl (cy 0, 32, .inl (fun _ => 0))), (a 9, .inl (cy 0, 192, .inl (fun _ => (-1)))), (a 10, .inl (cy 0, 128, .inl (fun _ => (-1)))), (a 11, .inl (cy 0, 32, .inl (fun _ => 0))), (a 12, .inl (cy 0, 192, .inl (fun _ => 0))), (a 13, .inr (6, [.ref (a 14), .int 0, .int 0, .int 0])), (a 14, .inl (cy 0, 40, .inl (fun _ => 0))), (a 15, .inr (2, [.ref (a 16), .ref (a 17), .int 0, .int 0])), (a 16, .inl (cy 0, 16, .inl (fun _ => 0))), (a 17, .inl (cy 0, 16, .inl (fun _ => 0))), (a 18, .inr (2, [.ref (a 19), .ref (a 20), .int 0, .int 0])), (a 19, .inl (cy 0, 32, .inl (fun _ => 0))), (a 20, .inl (cy 0, 32, .inl (fun _ => 0)))]) [3, 4, 5, 6, 7, 8, 9, 10, 11, 12, 13, 14, 15, 16, 17, 18, 19, 20, 21, 22] rfl
  have hD9 := hD.sub (ws' := [(a 1, .inr (8, [.int 1, .int 0, .int 0, .ref (a 2), .ref (a 3), .ref (a 4), .ref (a 5), .ref (a 6), .ref (a 7), .ref (a 8), .ref (a 9), .ref (a 10), .ref (a 11), .ref (a 12), .ref (a 13), .ref (a 15), .ref (a 18)])), (a 2, .inl (cy 0, 32, .inl (fun _ => 0))), (a 3, .inl (cy 0, 192, .inl (fun _ => 0))), (a 4, .inl (cy 0, 32, .inl (fun _ => 0))), (a 5, .inl (cy 0, 32, .inl (fun _ => 0))), (a 6, .inl (cy 0, 32, .inl (fun _ => 0))), (a 7, .inl (cy 0, 32, .inl (fun _ => (-1)))), (a 8, .inl (cy 0, 32, .inl (fun _ => 0))), (a 9, .inl (cy 0, 192, .inl (fun _ => (-1)))), (a 10, .inl (cy 0, 128, .inl (fun _ => (-1)))), (a 11, .inl (cy 0, 32, .inl (fun _ => 0))), (a 12, .inl (cy 0, 192, .inl (fun _ => 0))), (a 13, .inr (6, [.ref (a 14), .int 0, .int 0, .int 0])), (a 14, .inl (cy 0, 40, .inl (fun _ => 0))), (a 15, .inr (2, [.ref (a 16), .ref (a 17), .int 0, .int 0])), (a 16, .inl (cy 0, 16, .inl (fun _ => 0))), (a 17, .inl (cy 0, 16, .inl (fun _ => 0))), (a 18, .inr (2, [.ref (a 19), .ref (a 20), .int 0, .int 0])), (a 19, .inl (cy 0, 32, .inl (fun _ => 0))), (a 20, .inl (cy 0, 32, .inl (fun _ => 0)))]) [3, 4, 5, 6, 7, 8, 9, 10, 11, 12, 13, 14, 15, 16, 17, 18, 19, 20, 21, 22] (by decide) rfl
  exact W.vret hx hb hr (fun t ht hW => ⟨⟨((fun k => [].getD k 0, fun k => [].getD k (fun _ => 0), fun k => [].getD k (fun _ => none)) : uS), rfl, trivial, (by rw [ht]; exact hP9), hD9⟩, hS.F ht⟩) hS.2.2 dX1_keep_66

theorem dX3_forgetSteps_0 : decode cX3_forgetSteps 0 = .ok (.aload_n 0, 1) := by decide +kernel
theorem dX3_forgetSteps_1 : decode cX3_forgetSteps 1 = .ok (.iconst 0, 1) := by decide +kernel
theorem dX3_forgetSteps_2 : decode cX3_forgetSteps 2 = .ok (.putfield 41, 3) := by decide +kernel
theorem dX3_forgetSteps_5 : decode cX3_forgetSteps 5 = .ok (.return_, 1) := by decide +kernel
def v_X3_forgetSteps : List Cond := .code yX3_forgetSteps cX3_forgetSteps 1 none :: ([.fieldLink RX3 41 "RestBoard$Machine" "steps" "I"] ++ wsX30)
theorem m_X3_forgetSteps_0 : (.fieldLink RX3 41 "RestBoard$Machine" "steps" "I" : Cond) ∈ v_X3_forgetSteps := List.mem_of_getElem? (i := 1) (by decide +kernel)
theorem i_X3_forgetSteps_X3 : ∀ w ∈ u_ws RX3 TX3 10, w ∈ v_X3_forgetSteps := fun w h => List.mem_cons_of_mem _ (List.mem_append_right _ h)
set_option maxHeartbeats 4000000 in
set_option maxRecDepth 100000 in
theorem c_X3_forgetSteps (l : Launch) (dC : Nat → ClassId) (dI : Nat → Nat → Nat) (cy : Nat → ClassId) (a : Nat → Nat) (g : Nat → Nat → Option Nat) (sz : Nat) : Met l yX3_forgetSteps v_X3_forgetSteps ({ frames := 0, cells := 0, slots := 0, locals := 0 }) (va_Pc [.ref (a 28)] (ps dC dI cy ([(a 28, .inr (3, [.ref (a 21), .ref (a 1), .ref (a 65), .int 0, .int 0, .int 0, .int 0, .ref (a 29), .ref (a 66), .int 0]))]) sz)) (va_Qv (fun (_ : Unit) => True) (fun _ _ => True) (va_A ([(a 28, .inr (3, [.ref (a 21), .ref (a 1), .ref (a 65), .int 0, .int 0, .int 0, .int 0, .ref (a 29), .ref (a 66), .int 0]))]) sz)) 0 0 (va_A ([(a 28, .inr (3, [.ref (a 21), .ref (a 1), .ref (a 65), .int 0, .int 0, .int 0, .int 0, .ref (a 29), .ref (a 66), .int 0]))]) sz) := by
  refine Met.ofW (cc := cX3_forgetSteps) (maxL := 1) (ret := none) (by decide) rfl ?_
  intro p e s m args below meth c s₁ B hml hv
  obtain ⟨rfl, hsz, hP, hC, hD0⟩ := hv
  have hK := hC.1
  have hx := B.exec
  have hb := B.bytes
  have hr := B.returns
  have hts := atoms_spec (ws := v_X3_forgetSteps) B.pre
  have hown : s.vm.findClass RX3 = some m.cls := findClass_of_methodNamed B.named
  have hlocks := B.notSynchronized
  subst hsz
  have hD := hD0.self (sz := s.heap.size)
  generalize hAe : va_A ([(a 28, .inr (3, [.ref (a 21), .ref (a 1), .ref (a 65), .int 0, .int 0, .int 0, .int 0, .ref (a 29), .ref (a 66), .int 0]))]) s.heap.size = A at hD ⊢
  have hA : ∀ q : Nat, s.heap.size ≤ q → A q := fun q h => by rw [← hAe]; exact Or.inr h
  have hS : va_S A s.heap s.heap [] := va_S.rf
  have hl := lv_entry ([.ref (a 28)]) (n := 1) (Nat.le_of_ble_eq_true rfl)
  rw [lg_entry_eq]
  generalize (lg_sl ([.ref (a 28)]) ++ List.replicate (1 - (lg_sl ([.ref (a 28)])).length) Slot.unset).toArray = ls at hl ⊢
  have hl : lv_has ls 1 [(0, .ref (a 28))] := hl
  refine lv_aload_n hx hb dX3_forgetSteps_0 rfl (lv_at hl 0 rfl) ?_
  refine lv_iconst (v := 0) hx hb dX3_forgetSteps_1 (by decide) ?_
  refine va_put (D := (dC, dI)) (ci := 3) (v := .int 0) (ty := .int) (C := RX3) (T := TX3) (N := 10) hx hb hts i_X3_forgetSteps_X3 tyX3 tyX3_ok nmX3 hown hK hP hD hS 0 rfl rfl 4 (by decide) (hts _ m_X3_forgetSteps_0) (fun _ h9 => h9) rfl (by decide +kernel) rfl rfl (Nat.le_of_ble_eq_true rfl) dX3_forgetSteps_2 (fun H locs hP hD hS => ?_)
  have hP : va_P (dC, dI) vwCl ([(a 28, .inr (3, [.ref (a 21), .ref (a 1), .ref (a 65), .int 0, .int 0, .int 0, .int 0, .ref (a 29), .ref (a 66), .int 0]))]) H := hP
  have hD : va_D A ([(a 28, .inr (3, [.ref (a 21), .ref (a 1), .ref (a 65), .int 0, .int 0, .int 0, .int 0, .ref (a 29), .ref (a 66), .int 0]))]) := hD
  exact W.vret hx hb hr (fun t ht hW => ⟨⟨(), rfl, trivial, trivial⟩, hS.F ht⟩) hS.2.2 dX3_forgetSteps_5

theorem dX7_tiedTo_0 : decode cX7_tiedTo 0 = .ok (.iconst 0, 1) := by decide +kernel
theorem dX7_tiedTo_1 : decode cX7_tiedTo 1 = .ok (.istore_n 2, 1) := by decide +kernel
theorem dX7_tiedTo_2 : decode cX7_tiedTo 2 = .ok (.iconst 0, 1) := by decide +kernel
theorem dX7_tiedTo_3 : decode cX7_tiedTo 3 = .ok (.istore_n 3, 1) := by decide +kernel
theorem dX7_tiedTo_4 : decode cX7_tiedTo 4 = .ok (.iload_n 3, 1) := by decide +kernel
theorem dX7_tiedTo_5 : decode cX7_tiedTo 5 = .ok (.aload_n 0, 1) := by decide +kernel
theorem dX7_tiedTo_6 : decode cX7_tiedTo 6 = .ok (.getfield 19, 3) := by decide +kernel
theorem dX7_tiedTo_9 : decode cX7_tiedTo 9 = .ok (.getfield 35, 3) := by decide +kernel
theorem dX7_tiedTo_12 : decode cX7_tiedTo 12 = .ok (.if_icmp .ge 30, 3) := by decide +kernel
theorem dX7_tiedTo_15 : decode cX7_tiedTo 15 = .ok (.iload_n 2, 1) := by decide +kernel
theorem dX7_tiedTo_16 : decode cX7_tiedTo 16 = .ok (.aload_n 0, 1) := by decide +kernel
theorem dX7_tiedTo_17 : decode cX7_tiedTo 17 = .ok (.getfield 19, 3) := by decide +kernel
theorem dX7_tiedTo_20 : decode cX7_tiedTo 20 = .ok (.getfield 41, 3) := by decide +kernel
theorem dX7_tiedTo_23 : decode cX7_tiedTo 23 = .ok (.iload_n 3, 1) := by decide +kernel
theorem dX7_tiedTo_24 : decode cX7_tiedTo 24 = .ok (.iaload, 1) := by decide +kernel
theorem dX7_tiedTo_25 : decode cX7_tiedTo 25 = .ok (.iload_n 1, 1) := by decide +kernel
theorem dX7_tiedTo_26 : decode cX7_tiedTo 26 = .ok (.if_icmp .ne 7, 3) := by decide +kernel
theorem dX7_tiedTo_33 : decode cX7_tiedTo 33 = .ok (.iconst 0, 1) := by decide +kernel
theorem dX7_tiedTo_34 : decode cX7_tiedTo 34 = .ok (.iadd, 1) := by decide +kernel
theorem dX7_tiedTo_35 : decode cX7_tiedTo 35 = .ok (.istore_n 2, 1) := by decide +kernel
theorem dX7_tiedTo_36 : decode cX7_tiedTo 36 = .ok (.iinc 3 1, 3) := by decide +kernel
theorem dX7_tiedTo_39 : decode cX7_tiedTo 39 = .ok (.goto (-35), 3) := by decide +kernel
theorem dX7_tiedTo_42 : decode cX7_tiedTo 42 = .ok (.iload_n 2, 1) := by decide +kernel
theorem dX7_tiedTo_43 : decode cX7_tiedTo 43 = .ok (.ireturn, 1) := by decide +kernel
def v_X7_tiedTo : List Cond := .code yX7_tiedTo cX7_tiedTo 4 (some .int) :: ([.fieldLink RX7 19 "RestBoard$Rests" "now" "LRestBoard$State;", .fieldLink RX7 35 "RestBoard$State" "size" "I", .fieldLink RX7 41 "RestBoard$State" "lines" "[I"] ++ wsX70 ++ wsX80)
theorem m_X7_tiedTo_0 : (.fieldLink RX7 19 "RestBoard$Rests" "now" "LRestBoard$State;" : Cond) ∈ v_X7_tiedTo := List.mem_of_getElem? (i := 1) (by decide +kernel)
theorem m_X7_tiedTo_1 : (.fieldLink RX7 35 "RestBoard$State" "size" "I" : Cond) ∈ v_X7_tiedTo := List.mem_of_getElem? (i := 2) (by decide +kernel)
theorem m_X7_tiedTo_2 : (.fieldLink RX7 41 "RestBoard$State" "lines" "[I" : Cond) ∈ v_X7_tiedTo := List.mem_of_getElem? (i := 3) (by decide +kernel)
theorem i_X7_tiedTo_X7 : ∀ w ∈ u_ws RX7 TX7 5, w ∈ v_X7_tiedTo := fun w h => List.mem_cons_of_mem _ (List.mem_append_left _ (List.mem_append_right _ h))
theorem i_X7_tiedTo_X8 : ∀ w ∈ u_ws RX8 TX8 17, w ∈ v_X7_tiedTo := fun w h => List.mem_cons_of_mem _ (List.mem_append_right _ h)
set_option maxHeartbeats 4000000 in
set_option maxRecDepth 100000 in
theorem c_X7_tiedTo (l : Launch) (dC : Nat → ClassId) (dI : Nat → Nat → Nat) (cy : Nat → ClassId) (a : Nat → Nat) (g : Nat → Nat → Option Nat) (p0 x1 : Int32) (hq0_ : ¬ p0 < 0) : Met l yX7_tiedTo v_X7_tiedTo ({ frames := 0, cells := 0, slots := 0, locals := 0 }) (va_Pc [.ref (a 31), .int p0] (pp dC dI cy ([(a 31, .inr (7, [.ref (a 21), .ref (a 1), .ref (a 28), .ref (a 30), .ref (a 69)])), (a 1, .inr (8, [.int 1, .int 0, .int x1, .ref (a 2), .ref (a 3), .ref (a 4), .ref (a 5), .ref (a 6), .ref (a 7), .ref (a 8), .ref (a 9), .ref (a 10), .ref (a 11), .ref (a 12), .ref (a 13), .ref (a 15), .ref (a 18)])), (a 7, .inl (cy 0, 32, .inl (fun _ => (-1))))]))) (va_Qi (fun (r : Int32) (_ : Unit) => (¬ ((-1) : Int32) = p0) ∧ r = 0) (fun _ _ => True) (fun _ => False)) 0 0 (fun _ => False) := by
  refine Met.ofW (cc := cX7_tiedTo) (maxL := 4) (ret := (some .int)) (by decide) rfl ?_
  intro p e s m args below meth c s₁ B hml hv
  obtain ⟨rfl, hP, hC⟩ := hv
  have hK := hC.1
  have hx := B.exec
  have hb := B.bytes
  have hr := B.returns
  have hts := atoms_spec (ws := v_X7_tiedTo) B.pre
  have hown : s.vm.findClass RX7 = some m.cls := findClass_of_methodNamed B.named
  have hlocks := B.notSynchronized
  have hS : va_S (fun _ => False) s.heap s.heap [] := va_S.rf
  have hl := lv_entry ([.ref (a 31), .int p0]) (n := 4) (Nat.le_of_ble_eq_true rfl)
  rw [lg_entry_eq]
  generalize (lg_sl ([.ref (a 31), .int p0]) ++ List.replicate (4 - (lg_sl ([.ref (a 31), .int p0])).length) Slot.unset).toArray = ls at hl ⊢
  have hl : lv_has ls 4 [(0, .ref (a 31)), (1, .int p0)] := hl
  refine lv_iconst (v := 0) hx hb dX7_tiedTo_0 (by decide) ?_
  refine lv_istore_n (lv' := [(2, .int 0), (0, .ref (a 31)), (1, .int p0)]) hx hb dX7_tiedTo_1 rfl hl (by decide) rfl (fun ls hl => ?_)
  refine lv_iconst (v := 0) hx hb dX7_tiedTo_2 (by decide) ?_
  refine lv_istore_n (lv' := [(3, .int 0), (2, .int 0), (0, .ref (a 31)), (1, .int p0)]) hx hb dX7_tiedTo_3 rfl hl (by decide) rfl (fun ls hl => ?_)
  refine lv_iload_n hx hb dX7_tiedTo_4 rfl (lv_at hl 0 rfl) ?_
  refine lv_aload_n hx hb dX7_tiedTo_5 rfl (lv_at hl 2 rfl) ?_
  refine va_get (D := (dC, dI)) (ci := 7) (v := .ref (a 1)) (C := RX7) (T := TX7) (N := 5) hx hb hts i_X7_tiedTo_X7 hown hK hP 0 rfl rfl 1 (by decide) (hts _ m_X7_tiedTo_0) (fun _ h9 => h9) rfl dX7_tiedTo_6 ?_
  refine va_get (D := (dC, dI)) (ci := 8) (v := .int 1) (C := RX8) (T := TX8) (N := 17) hx hb hts i_X7_tiedTo_X8 hown hK hP 1 rfl rfl 0 (by decide) (hts _ m_X7_tiedTo_1) (fun _ h9 => h9) rfl dX7_tiedTo_9 ?_
  refine lv_icmp_ge (tgt := 42) hx hb dX7_tiedTo_12 (by decide) (fun c9_ => absurd c9_ (by decide)) (fun _ => ?_)
  refine lv_iload_n hx hb dX7_tiedTo_15 rfl (lv_at hl 1 rfl) ?_
  refine lv_aload_n hx hb dX7_tiedTo_16 rfl (lv_at hl 2 rfl) ?_
  refine va_get (D := (dC, dI)) (ci := 7) (v := .ref (a 1)) (C := RX7) (T := TX7) (N := 5) hx hb hts i_X7_tiedTo_X7 hown hK hP 0 rfl rfl 1 (by decide) (hts _ m_X7_tiedTo_0) (fun _ h9 => h9) rfl dX7_tiedTo_17 ?_
  refine va_get (D := (dC, dI)) (ci := 8) (v := .ref (a 7)) (C := RX8) (T := TX8) (N := 17) hx hb hts i_X7_tiedTo_X8 hown hK hP 1 rfl rfl 8 (by decide) (hts _ m_X7_tiedTo_2) (fun _ h9 => h9) rfl dX7_tiedTo_20 ?_
  refine lv_iload_n hx hb dX7_tiedTo_23 rfl (lv_at hl 0 rfl) ?_
  refine va_iald hx hb hK hP 2 0 rfl rfl (show ¬ ((0 : Int32) < 0 ∨ 32 ≤ Int32.toNatClampNeg 0) by decide) dX7_tiedTo_24 ?_
  refine tk_i (-1) (by rfl) ?_
  refine lv_iload_n hx hb dX7_tiedTo_25 rfl (lv_at hl 3 rfl) ?_
  refine lv_icmp_ne (tgt := 33) hx hb dX7_tiedTo_26 (by decide) (fun c1_ => ?_) (fun c1_ => ?_)
  · skip
    refine lv_iconst (v := 0) hx hb dX7_tiedTo_33 (by decide) ?_
    refine lv_iadd hx hb dX7_tiedTo_34 ?_
    refine tk_i 0 (by decide) ?_
    refine lv_istore_n (lv' := [(2, .int 0), (3, .int 0), (0, .ref (a 31)), (1, .int p0)]) hx hb dX7_tiedTo_35 rfl hl (by decide) rfl (fun ls hl => ?_)
    refine lv_iinc (v := 1) (lv' := [(3, .int 1), (2, .int 0), (0, .ref (a 31)), (1, .int p0)]) hx hb dX7_tiedTo_36 hl (k := 1) rfl (by decide) (by decide) rfl (fun ls hl => ?_)
    refine lv_goto (tgt := 4) hx hb dX7_tiedTo_39 (by decide) ?_
    refine lv_iload_n hx hb dX7_tiedTo_4 rfl (lv_at hl 0 rfl) ?_
    refine lv_aload_n hx hb dX7_tiedTo_5 rfl (lv_at hl 2 rfl) ?_
    refine va_get (D := (dC, dI)) (ci := 7) (v := .ref (a 1)) (C := RX7) (T := TX7) (N := 5) hx hb hts i_X7_tiedTo_X7 hown hK hP 0 rfl rfl 1 (by decide) (hts _ m_X7_tiedTo_0) (fun _ h9 => h9) rfl dX7_tiedTo_6 ?_
    refine va_get (D := (dC, dI)) (ci := 8) (v := .int 1) (C := RX8) (T := TX8) (N := 17) hx hb hts i_X7_tiedTo_X8 hown hK hP 1 rfl rfl 0 (by decide) (hts _ m_X7_tiedTo_1) (fun _ h9 => h9) rfl dX7_tiedTo_9 ?_
    refine lv_icmp_ge (tgt := 42) hx hb dX7_tiedTo_12 (by decide) (fun _ => ?_) (fun c9_ => absurd (by decide) c9_)
    refine lv_iload_n hx hb dX7_tiedTo_42 rfl (lv_at hl 1 rfl) ?_
    exact W.iret (v := 0) hx hb hr (fun t ht hW => ⟨⟨0, (), rfl, ⟨c1_, rfl⟩, trivial⟩, hS.F ht⟩) hS.2.2 dX7_tiedTo_43
  · skip
    exfalso
    have z0_ := tz_nlt_r hq0_ (show (0 : Int32).toInt = 0 by decide)
    have z1_ := tz_eq_l c1_ (show ((-1) : Int32).toInt = -1 by decide)
    omega

theorem dX7_lift_0 : decode cX7_lift 0 = .ok (.aload_n 0, 1) := by decide +kernel
theorem dX7_lift_1 : decode cX7_lift 1 = .ok (.getfield 23, 3) := by decide +kernel
theorem dX7_lift_4 : decode cX7_lift 4 = .ok (.invokevirtual 93, 3) := by decide +kernel
theorem dX7_lift_7 : decode cX7_lift 7 = .ok (.aload_n 0, 1) := by decide +kernel
theorem dX7_lift_8 : decode cX7_lift 8 = .ok (.getfield 19, 3) := by decide +kernel
theorem dX7_lift_11 : decode cX7_lift 11 = .ok (.dup, 1) := by decide +kernel
theorem dX7_lift_12 : decode cX7_lift 12 = .ok (.getfield 70, 3) := by decide +kernel
theorem dX7_lift_15 : decode cX7_lift 15 = .ok (.iconst 1, 1) := by decide +kernel
theorem dX7_lift_16 : decode cX7_lift 16 = .ok (.iload_n 1, 1) := by decide +kernel
theorem dX7_lift_17 : decode cX7_lift 17 = .ok (.ishl, 1) := by decide +kernel
theorem dX7_lift_18 : decode cX7_lift 18 = .ok (.ior, 1) := by decide +kernel
theorem dX7_lift_19 : decode cX7_lift 19 = .ok (.putfield 70, 3) := by decide +kernel
theorem dX7_lift_22 : decode cX7_lift 22 = .ok (.aload_n 0, 1) := by decide +kernel
theorem dX7_lift_23 : decode cX7_lift 23 = .ok (.iload_n 1, 1) := by decide +kernel
theorem dX7_lift_24 : decode cX7_lift 24 = .ok (.invokevirtual 154, 3) := by decide +kernel
theorem dX7_lift_27 : decode cX7_lift 27 = .ok (.istore_n 2, 1) := by decide +kernel
theorem dX7_lift_28 : decode cX7_lift 28 = .ok (.iload_n 2, 1) := by decide +kernel
theorem dX7_lift_29 : decode cX7_lift 29 = .ok (.ifCond .le 24, 3) := by decide +kernel
theorem dX7_lift_53 : decode cX7_lift 53 = .ok (.iconst 0, 1) := by decide +kernel
theorem dX7_lift_54 : decode cX7_lift 54 = .ok (.istore_n 3, 1) := by decide +kernel
theorem dX7_lift_55 : decode cX7_lift 55 = .ok (.iload_n 3, 1) := by decide +kernel
theorem dX7_lift_56 : decode cX7_lift 56 = .ok (.aload_n 0, 1) := by decide +kernel
theorem dX7_lift_57 : decode cX7_lift 57 = .ok (.getfield 19, 3) := by decide +kernel
theorem dX7_lift_60 : decode cX7_lift 60 = .ok (.getfield 35, 3) := by decide +kernel
theorem dX7_lift_63 : decode cX7_lift 63 = .ok (.if_icmp .ge 38, 3) := by decide +kernel
theorem dX7_lift_66 : decode cX7_lift 66 = .ok (.aload_n 0, 1) := by decide +kernel
theorem dX7_lift_67 : decode cX7_lift 67 = .ok (.getfield 19, 3) := by decide +kernel
theorem dX7_lift_70 : decode cX7_lift 70 = .ok (.getfield 41, 3) := by decide +kernel
theorem dX7_lift_73 : decode cX7_lift 73 = .ok (.iload_n 3, 1) := by decide +kernel
theorem dX7_lift_74 : decode cX7_lift 74 = .ok (.iaload, 1) := by decide +kernel
theorem dX7_lift_75 : decode cX7_lift 75 = .ok (.iload_n 1, 1) := by decide +kernel
theorem dX7_lift_76 : decode cX7_lift 76 = .ok (.if_icmp .ne 19, 3) := by decide +kernel
theorem dX7_lift_95 : decode cX7_lift 95 = .ok (.iinc 3 1, 3) := by decide +kernel
theorem dX7_lift_98 : decode cX7_lift 98 = .ok (.goto (-43), 3) := by decide +kernel
theorem dX7_lift_101 : decode cX7_lift 101 = .ok (.iload_n 2, 1) := by decide +kernel
theorem dX7_lift_102 : decode cX7_lift 102 = .ok (.ireturn, 1) := by decide +kernel
def v_X7_lift : List Cond := .code yX7_lift cX7_lift 4 (some .int) :: ([.fieldLink RX7 23 "RestBoard$Rests" "machine" "LRestBoard$Machine;", .fieldLink RX7 19 "RestBoard$Rests" "now" "LRestBoard$State;", .fieldLink RX7 70 "RestBoard$State" "raised" "I", .fieldLink RX7 35 "RestBoard$State" "size" "I", .fieldLink RX7 41 "RestBoard$State" "lines" "[I", .methodLink RX7 93 yX3_forgetSteps, .instanceMethod yX3_forgetSteps, .selects RX3 yX3_forgetSteps yX3_forgetSteps, .initialized RX3, .code yX3_forgetSteps cX3_forgetSteps 1 none, .fieldLink RX3 41 "RestBoard$Machine" "steps" "I", .methodLink RX7 154 yX7_tiedTo, .instanceMethod yX7_tiedTo, .selects RX7 yX7_tiedTo yX7_tiedTo, .initialized RX7, .code yX7_tiedTo cX7_tiedTo 4 (some .int)] ++ wsX70 ++ wsX80 ++ wsX30)
theorem m_X7_lift_0 : (.fieldLink RX7 23 "RestBoard$Rests" "machine" "LRestBoard$Machine;" : Cond) ∈ v_X7_lift := List.mem_of_getElem? (i := 1) (by decide +kernel)
theorem m_X7_lift_1 : (.fieldLink RX7 19 "RestBoard$Rests" "now" "LRestBoard$State;" : Cond) ∈ v_X7_lift := List.mem_of_getElem? (i := 2) (by decide +kernel)
theorem m_X7_lift_2 : (.fieldLink RX7 70 "RestBoard$State" "raised" "I" : Cond) ∈ v_X7_lift := List.mem_of_getElem? (i := 3) (by decide +kernel)
theorem m_X7_lift_3 : (.fieldLink RX7 35 "RestBoard$State" "size" "I" : Cond) ∈ v_X7_lift := List.mem_of_getElem? (i := 4) (by decide +kernel)
theorem m_X7_lift_4 : (.fieldLink RX7 41 "RestBoard$State" "lines" "[I" : Cond) ∈ v_X7_lift := List.mem_of_getElem? (i := 5) (by decide +kernel)
theorem i_X7_lift_X7 : ∀ w ∈ u_ws RX7 TX7 5, w ∈ v_X7_lift := fun w h => List.mem_cons_of_mem _ (List.mem_append_left _ (List.mem_append_left _ (List.mem_append_right _ h)))
theorem i_X7_lift_X8 : ∀ w ∈ u_ws RX8 TX8 17, w ∈ v_X7_lift := fun w h => List.mem_cons_of_mem _ (List.mem_append_left _ (List.mem_append_right _ h))
set_option maxRecDepth 100000 in
theorem gg_X7_lift_X3_forgetSteps_93 : GoodIn v_X7_lift v_X3_forgetSteps := goodIn_r _ [10, 11, 39, 40, 41, 42, 43, 44, 45, 46, 47, 48] (by decide +kernel) (by decide +kernel)
set_option maxRecDepth 100000 in
theorem g_X7_lift_X3_forgetSteps_93 : GoodIn v_X7_lift (wsV RX7 93 RX3 yX3_forgetSteps v_X3_forgetSteps) := goodIn_app (goodIn_r _ [6, 7, 8, 9] (by decide +kernel) (by decide +kernel)) gg_X7_lift_X3_forgetSteps_93
set_option maxRecDepth 100000 in
theorem gg_X7_lift_X7_tiedTo_154 : GoodIn v_X7_lift v_X7_tiedTo := goodIn_r _ [16, 2, 4, 5, 17, 18, 19, 20, 21, 22, 23, 24, 25, 26, 27, 28, 29, 30, 31, 32, 33, 34, 35, 36, 37, 38] (by decide +kernel) (by decide +kernel)
set_option maxRecDepth 100000 in
theorem g_X7_lift_X7_tiedTo_154 : GoodIn v_X7_lift (wsV RX7 154 RX7 yX7_tiedTo v_X7_tiedTo) := goodIn_app (goodIn_r _ [12, 13, 14, 15] (by decide +kernel) (by decide +kernel)) gg_X7_lift_X7_tiedTo_154
set_option maxHeartbeats 4000000 in
set_option maxRecDepth 100000 in
theorem c_X7_lift (l : Launch) (dC : Nat → ClassId) (dI : Nat → Nat → Nat) (cy : Nat → ClassId) (a : Nat → Nat) (g : Nat → Nat → Option Nat) (sz : Nat) (p0 : Int32) (hq0_ : ¬ p0 < 0) : Met l yX7_lift v_X7_lift ({ frames := 1, cells := 0, slots := 0, locals := 23 }) (va_Pc [.ref (a 31), .int p0] (ps dC dI cy ([(a 31, .inr (7, [.ref (a 21), .ref (a 1), .ref (a 28), .ref (a 30), .ref (a 69)])), (a 28, .inr (3, [.ref (a 21), .ref (a 1), .ref (a 65), .int 0, .int 0, .int 0, .int 0, .ref (a 29), .ref (a 66), .int 0])), (a 1, .inr (8, [.int 1, .int 0, .int 0, .ref (a 2), .ref (a 3), .ref (a 4), .ref (a 5), .ref (a 6), .ref (a 7), .ref (a 8), .ref (a 9), .ref (a 10), .ref (a 11), .ref (a 12), .ref (a 13), .ref (a 15), .ref (a 18)])), (a 7, .inl (cy 0, 32, .inl (fun _ => (-1))))]) sz)) (va_Qi (fun (r : Int32) (_ : Unit) => (¬ ((-1) : Int32) = p0) ∧ r = 0) (fun _ _ => True) (va_A ([(a 31, .inr (7, [.ref (a 21), .ref (a 1), .ref (a 28), .ref (a 30), .ref (a 69)])), (a 28, .inr (3, [.ref (a 21), .ref (a 1), .ref (a 65), .int 0, .int 0, .int 0, .int 0, .ref (a 29), .ref (a 66), .int 0])), (a 1, .inr (8, [.int 1, .int 0, .int 0, .ref (a 2), .ref (a 3), .ref (a 4), .ref (a 5), .ref (a 6), .ref (a 7), .ref (a 8), .ref (a 9), .ref (a 10), .ref (a 11), .ref (a 12), .ref (a 13), .ref (a 15), .ref (a 18)])), (a 7, .inl (cy 0, 32, .inl (fun _ => (-1))))]) sz)) 0 0 (va_A ([(a 31, .inr (7, [.ref (a 21), .ref (a 1), .ref (a 28), .ref (a 30), .ref (a 69)])), (a 28, .inr (3, [.ref (a 21), .ref (a 1), .ref (a 65), .int 0, .int 0, .int 0, .int 0, .ref (a 29), .ref (a 66), .int 0])), (a 1, .inr (8, [.int 1, .int 0, .int 0, .ref (a 2), .ref (a 3), .ref (a 4), .ref (a 5), .ref (a 6), .ref (a 7), .ref (a 8), .ref (a 9), .ref (a 10), .ref (a 11), .ref (a 12), .ref (a 13), .ref (a 15), .ref (a 18)])), (a 7, .inl (cy 0, 32, .inl (fun _ => (-1))))]) sz) := by
  refine Met.ofW (cc := cX7_lift) (maxL := 4) (ret := (some .int)) (by decide) rfl ?_
  intro p e s m args below meth c s₁ B hml hv
  obtain ⟨rfl, hsz, hP, hC, hD0⟩ := hv
  have hK := hC.1
  have hx := B.exec
  have hb := B.bytes
  have hr := B.returns
  have hts := atoms_spec (ws := v_X7_lift) B.pre
  have hown : s.vm.findClass RX7 = some m.cls := findClass_of_methodNamed B.named
  have hlocks := B.notSynchronized
  subst hsz
  have hD := hD0.self (sz := s.heap.size)
  generalize hAe : va_A ([(a 31, .inr (7, [.ref (a 21), .ref (a 1), .ref (a 28), .ref (a 30), .ref (a 69)])), (a 28, .inr (3, [.ref (a 21), .ref (a 1), .ref (a 65), .int 0, .int 0, .int 0, .int 0, .ref (a 29), .ref (a 66), .int 0])), (a 1, .inr (8, [.int 1, .int 0, .int 0, .ref (a 2), .ref (a 3), .ref (a 4), .ref (a 5), .ref (a 6), .ref (a 7), .ref (a 8), .ref (a 9), .ref (a 10), .ref (a 11), .ref (a 12), .ref (a 13), .ref (a 15), .ref (a 18)])), (a 7, .inl (cy 0, 32, .inl (fun _ => (-1))))]) s.heap.size = A at hD ⊢
  have hA : ∀ q : Nat, s.heap.size ≤ q → A q := fun q h => by rw [← hAe]; exact Or.inr h
  have hS : va_S A s.heap s.heap [] := va_S.rf
  have hl := lv_entry ([.ref (a 31), .int p0]) (n := 4) (Nat.le_of_ble_eq_true rfl)
  rw [lg_entry_eq]
  generalize (lg_sl ([.ref (a 31), .int p0]) ++ List.replicate (4 - (lg_sl ([.ref (a 31), .int p0])).length) Slot.unset).toArray = ls at hl ⊢
  have hl : lv_has ls 4 [(0, .ref (a 31)), (1, .int p0)] := hl
  refine lv_aload_n hx hb dX7_lift_0 rfl (lv_at hl 0 rfl) ?_
  refine va_get (D := (dC, dI)) (ci := 7) (v := .ref (a 28)) (C := RX7) (T := TX7) (N := 5) hx hb hts i_X7_lift_X7 hown hK hP 0 rfl rfl 2 (by decide) (hts _ m_X7_lift_0) (fun _ h9 => h9) rfl dX7_lift_1 ?_
  have hPc : va_P (dC, dI) vwCl ([(a 28, .inr (3, [.ref (a 21), .ref (a 1), .ref (a 65), .int 0, .int 0, .int 0, .int 0, .ref (a 29), .ref (a 66), .int 0]))]) _ := hP.sub [1] rfl
  have hDc := hD.sub (ws' := [(a 28, .inr (3, [.ref (a 21), .ref (a 1), .ref (a 65), .int 0, .int 0, .int 0, .int 0, .ref (a 29), .ref (a 66), .int 0]))]) [1] (by decide) rfl
  have hFc := va_free (wc := [(a 28, .inr (3, [.ref (a 21), .ref (a 1), .ref (a 65), .int 0, .int 0, .int 0, .int 0, .ref (a 29), .ref (a 66), .int 0]))]) hD hS hA [1] rfl
  refine va_callv (va_runV (As := []) (rest := []) ⟨hx, hb, hml, hown, hts⟩ (c_X3_forgetSteps l dC dI cy a g _) (cwV 0 hts g_X7_lift_X3_forgetSteps_93 rfl rfl rfl (by decide +kernel) ⟨Nat.le_of_ble_eq_true rfl, Nat.le_of_ble_eq_true rfl⟩) (pv_ps hC hPc hDc (ci := 3) (q0 := 0) rfl rfl) rfl rfl hl.1 rfl (lv_room (Nat.le_of_ble_eq_true rfl)) dX7_lift_4 ⟨Nat.le_of_ble_eq_true rfl, Nat.le_of_ble_eq_true rfl⟩) hS (fun q _ h => hFc q h) hFc (fun u t_ H1 locs ht hvm hw hB hz1 hk1 hS => ?_)
  obtain ⟨hP, hD⟩ := va_join (wr := [(a 31, .inr (7, [.ref (a 21), .ref (a 1), .ref (a 28), .ref (a 30), .ref (a 69)])), (a 1, .inr (8, [.int 1, .int 0, .int 0, .ref (a 2), .ref (a 3), .ref (a 4), .ref (a 5), .ref (a 6), .ref (a 7), .ref (a 8), .ref (a 9), .ref (a 10), .ref (a 11), .ref (a 12), .ref (a 13), .ref (a 15), .ref (a 18)])), (a 7, .inl (cy 0, 32, .inl (fun _ => (-1))))]) (w1 := []) hP hD [1] [0, 2, 3] rfl rfl (by decide) (by decide) hk1 hFc va_P0 va_D0
  generalize H1 = H at hP hS ⊢
  have hP : va_P (dC, dI) vwCl ([(a 31, .inr (7, [.ref (a 21), .ref (a 1), .ref (a 28), .ref (a 30), .ref (a 69)])), (a 1, .inr (8, [.int 1, .int 0, .int 0, .ref (a 2), .ref (a 3), .ref (a 4), .ref (a 5), .ref (a 6), .ref (a 7), .ref (a 8), .ref (a 9), .ref (a 10), .ref (a 11), .ref (a 12), .ref (a 13), .ref (a 15), .ref (a 18)])), (a 7, .inl (cy 0, 32, .inl (fun _ => (-1))))]) H := hP
  have hD : va_D A ([(a 31, .inr (7, [.ref (a 21), .ref (a 1), .ref (a 28), .ref (a 30), .ref (a 69)])), (a 1, .inr (8, [.int 1, .int 0, .int 0, .ref (a 2), .ref (a 3), .ref (a 4), .ref (a 5), .ref (a 6), .ref (a 7), .ref (a 8), .ref (a 9), .ref (a 10), .ref (a 11), .ref (a 12), .ref (a 13), .ref (a 15), .ref (a 18)])), (a 7, .inl (cy 0, 32, .inl (fun _ => (-1))))]) := hD
  refine lv_aload_n hx hb dX7_lift_7 rfl (lv_at hl 0 rfl) ?_
  refine va_get (D := (dC, dI)) (ci := 7) (v := .ref (a 1)) (C := RX7) (T := TX7) (N := 5) hx hb hts i_X7_lift_X7 hown hK hP 0 rfl rfl 1 (by decide) (hts _ m_X7_lift_1) (fun _ h9 => h9) rfl dX7_lift_8 ?_
  refine lv_dup hx hb dX7_lift_11 rfl ?_
  refine va_get (D := (dC, dI)) (ci := 8) (v := .int 0) (C := RX8) (T := TX8) (N := 17) hx hb hts i_X7_lift_X8 hown hK hP 1 rfl rfl 2 (by decide) (hts _ m_X7_lift_2) (fun _ h9 => h9) rfl dX7_lift_12 ?_
  refine lv_iconst (v := 1) hx hb dX7_lift_15 (by decide) ?_
  refine lv_iload_n hx hb dX7_lift_16 rfl (lv_at hl 1 rfl) ?_
  refine lv_ishl hx hb dX7_lift_17 ?_
  refine lv_ior hx hb dX7_lift_18 ?_
  refine va_put (D := (dC, dI)) (ci := 8) (v := .int ((0 : Int32) ||| ((1 : Int32) <<< (p0 &&& 31)))) (ty := .int) (C := RX8) (T := TX8) (N := 17) hx hb hts i_X7_lift_X8 tyX8 tyX8_ok nmX8 hown hK hP hD hS 1 rfl rfl 2 (by decide) (hts _ m_X7_lift_2) (fun _ h9 => h9) rfl (by decide +kernel) rfl rfl (Nat.le_of_ble_eq_true rfl) dX7_lift_19 (fun H locs hP hD hS => ?_)
  refine lv_aload_n hx hb dX7_lift_22 rfl (lv_at hl 0 rfl) ?_
  refine lv_iload_n hx hb dX7_lift_23 rfl (lv_at hl 1 rfl) ?_
  have hPc : va_P (dC, dI) vwCl ([(a 31, .inr (7, [.ref (a 21), .ref (a 1), .ref (a 28), .ref (a 30), .ref (a 69)])), (a 1, .inr (8, [.int 1, .int 0, .int ((0 : Int32) ||| ((1 : Int32) <<< (p0 &&& 31))), .ref (a 2), .ref (a 3), .ref (a 4), .ref (a 5), .ref (a 6), .ref (a 7), .ref (a 8), .ref (a 9), .ref (a 10), .ref (a 11), .ref (a 12), .ref (a 13), .ref (a 15), .ref (a 18)])), (a 7, .inl (cy 0, 32, .inl (fun _ => (-1))))]) _ := hP.sub [0, 1, 2] rfl
  refine tk_pi (va_runV (As := [.int p0]) (rest := []) ⟨hx, hb, hml, hown, hts⟩ (c_X7_tiedTo l dC dI cy a g p0 ((0 : Int32) ||| ((1 : Int32) <<< (p0 &&& 31))) hq0_) (cwV 1 hts g_X7_lift_X7_tiedTo_154 rfl rfl rfl (by decide +kernel) ⟨Nat.le_of_ble_eq_true rfl, Nat.le_of_ble_eq_true rfl⟩) (pv_pp hC hPc (ci := 7) (q0 := 0) rfl rfl) rfl rfl hl.1 rfl (lv_room (Nat.le_of_ble_eq_true rfl)) dX7_lift_24 ⟨Nat.le_of_ble_eq_true rfl, Nat.le_of_ble_eq_true rfl⟩) hP hS (fun r_ H locs hw hP hS => ?_)
  obtain ⟨c1_, rfl⟩ := hw
  refine lv_istore_n (lv' := [(2, .int 0), (0, .ref (a 31)), (1, .int p0)]) hx hb dX7_lift_27 rfl hl (by decide) rfl (fun ls hl => ?_)
  refine lv_iload_n hx hb dX7_lift_28 rfl (lv_at hl 0 rfl) ?_
  refine lv_if_le (tgt := 53) hx hb dX7_lift_29 (by decide) (fun _ => ?_) (fun c9_ => absurd (by decide) c9_)
  refine lv_iconst (v := 0) hx hb dX7_lift_53 (by decide) ?_
  refine lv_istore_n (lv' := [(3, .int 0), (2, .int 0), (0, .ref (a 31)), (1, .int p0)]) hx hb dX7_lift_54 rfl hl (by decide) rfl (fun ls hl => ?_)
  refine lv_iload_n hx hb dX7_lift_55 rfl (lv_at hl 0 rfl) ?_
  refine lv_aload_n hx hb dX7_lift_56 rfl (lv_at hl 2 rfl) ?_
  refine va_get (D := (dC, dI)) (ci := 7) (v := .ref (a 1)) (C := RX7) (T := TX7) (N := 5) hx hb hts i_X7_lift_X7 hown hK hP 0 rfl rfl 1 (by decide) (hts _ m_X7_lift_1) (fun _ h9 => h9) rfl dX7_lift_57 ?_
  refine va_get (D := (dC, dI)) (ci := 8) (v := .int 1) (C := RX8) (T := TX8) (N := 17) hx hb hts i_X7_lift_X8 hown hK hP 1 rfl rfl 0 (by decide) (hts _ m_X7_lift_3) (fun _ h9 => h9) rfl dX7_lift_60 ?_
  refine lv_icmp_ge (tgt := 101) hx hb dX7_lift_63 (by decide) (fun c9_ => absurd c9_ (by decide)) (fun _ => ?_)
  refine lv_aload_n hx hb dX7_lift_66 rfl (lv_at hl 2 rfl) ?_
  refine va_get (D := (dC, dI)) (ci := 7) (v := .ref (a 1)) (C := RX7) (T := TX7) (N := 5) hx hb hts i_X7_lift_X7 hown hK hP 0 rfl rfl 1 (by decide) (hts _ m_X7_lift_1) (fun _ h9 => h9) rfl dX7_lift_67 ?_
  refine va_get (D := (dC, dI)) (ci := 8) (v := .ref (a 7)) (C := RX8) (T := TX8) (N := 17) hx hb hts i_X7_lift_X8 hown hK hP 1 rfl rfl 8 (by decide) (hts _ m_X7_lift_4) (fun _ h9 => h9) rfl dX7_lift_70 ?_
  refine lv_iload_n hx hb dX7_lift_73 rfl (lv_at hl 0 rfl) ?_
  refine va_iald hx hb hK hP 2 0 rfl rfl (show ¬ ((0 : Int32) < 0 ∨ 32 ≤ Int32.toNatClampNeg 0) by decide) dX7_lift_74 ?_
  refine tk_i (-1) (by rfl) ?_
  refine lv_iload_n hx hb dX7_lift_75 rfl (lv_at hl 3 rfl) ?_
  refine lv_icmp_ne (tgt := 95) hx hb dX7_lift_76 (by decide) (fun c2_ => ?_) (fun c2_ => ?_)
  · skip
    refine lv_iinc (v := 1) (lv' := [(3, .int 1), (2, .int 0), (0, .ref (a 31)), (1, .int p0)]) hx hb dX7_lift_95 hl (k := 0) rfl (by decide) (by decide) rfl (fun ls hl => ?_)
    refine lv_goto (tgt := 55) hx hb dX7_lift_98 (by decide) ?_
    refine lv_iload_n hx hb dX7_lift_55 rfl (lv_at hl 0 rfl) ?_
    refine lv_aload_n hx hb dX7_lift_56 rfl (lv_at hl 2 rfl) ?_
    refine va_get (D := (dC, dI)) (ci := 7) (v := .ref (a 1)) (C := RX7) (T := TX7) (N := 5) hx hb hts i_X7_lift_X7 hown hK hP 0 rfl rfl 1 (by decide) (hts _ m_X7_lift_1) (fun _ h9 => h9) rfl dX7_lift_57 ?_
    refine va_get (D := (dC, dI)) (ci := 8) (v := .int 1) (C := RX8) (T := TX8) (N := 17) hx hb hts i_X7_lift_X8 hown hK hP 1 rfl rfl 0 (by decide) (hts _ m_X7_lift_3) (fun _ h9 => h9) rfl dX7_lift_60 ?_
    refine lv_icmp_ge (tgt := 101) hx hb dX7_lift_63 (by decide) (fun _ => ?_) (fun c9_ => absurd (by decide) c9_)
    refine lv_iload_n hx hb dX7_lift_101 rfl (lv_at hl 1 rfl) ?_
    exact W.iret (v := 0) hx hb hr (fun t ht hW => ⟨⟨0, (), rfl, ⟨c1_, rfl⟩, trivial⟩, hS.F ht⟩) hS.2.2 dX7_lift_102
  · skip
    exfalso
    have z0_ := tz_nlt_r hq0_ (show (0 : Int32).toInt = 0 by decide)
    have z1_ := tz_neq_l c1_ (show ((-1) : Int32).toInt = -1 by decide)
    have z2_ := tz_eq_l c2_ (show ((-1) : Int32).toInt = -1 by decide)
    omega

theorem dX11_raise_0 : decode cX11_raise 0 = .ok (.iload_n 1, 1) := by decide +kernel
theorem dX11_raise_1 : decode cX11_raise 1 = .ok (.invokestatic 178, 3) := by decide +kernel
theorem dX11_raise_4 : decode cX11_raise 4 = .ok (.ifCond .ne 9, 3) := by decide +kernel
theorem dX11_raise_7 : decode cX11_raise 7 = .ok (.aload_n 0, 1) := by decide +kernel
theorem dX11_raise_8 : decode cX11_raise 8 = .ok (.iconst (-1), 1) := by decide +kernel
theorem dX11_raise_9 : decode cX11_raise 9 = .ok (.invokevirtual 89, 3) := by decide +kernel
theorem dX11_raise_12 : decode cX11_raise 12 = .ok (.ireturn, 1) := by decide +kernel
theorem dX11_raise_13 : decode cX11_raise 13 = .ok (.aload_n 0, 1) := by decide +kernel
theorem dX11_raise_14 : decode cX11_raise 14 = .ok (.iload_n 1, 1) := by decide +kernel
theorem dX11_raise_15 : decode cX11_raise 15 = .ok (.invokevirtual 181, 3) := by decide +kernel
theorem dX11_raise_18 : decode cX11_raise 18 = .ok (.ifCond .eq 10, 3) := by decide +kernel
theorem dX11_raise_28 : decode cX11_raise 28 = .ok (.aload_n 0, 1) := by decide +kernel
theorem dX11_raise_29 : decode cX11_raise 29 = .ok (.getfield 65, 3) := by decide +kernel
theorem dX11_raise_32 : decode cX11_raise 32 = .ok (.bipush 7, 2) := by decide +kernel
theorem dX11_raise_34 : decode cX11_raise 34 = .ok (.invokevirtual 106, 3) := by decide +kernel
theorem dX11_raise_37 : decode cX11_raise 37 = .ok (.aload_n 0, 1) := by decide +kernel
theorem dX11_raise_38 : decode cX11_raise 38 = .ok (.aload_n 0, 1) := by decide +kernel
theorem dX11_raise_39 : decode cX11_raise 39 = .ok (.getfield 58, 3) := by decide +kernel
theorem dX11_raise_42 : decode cX11_raise 42 = .ok (.iload_n 1, 1) := by decide +kernel
theorem dX11_raise_43 : decode cX11_raise 43 = .ok (.invokevirtual 184, 3) := by decide +kernel
theorem dX11_raise_46 : decode cX11_raise 46 = .ok (.invokevirtual 113, 3) := by decide +kernel
theorem dX11_raise_49 : decode cX11_raise 49 = .ok (.ireturn, 1) := by decide +kernel
def v_X11_raise : List Cond := .code yX11_raise cX11_raise 2 (some .int) :: ([.fieldLink RX11 65 "RestBoard" "history" "LRestBoard$History;", .fieldLink RX11 58 "RestBoard" "rests" "LRestBoard$Rests;", .methodLink RX11 178 yX11_isLine, .static yX11_isLine, .initialized RX11, .code yX11_isLine cX11_isLine 1 (some .boolean), .methodLink RX11 89 yX11_refuse, .instanceMethod yX11_refuse, .selects RX11 yX11_refuse yX11_refuse, .code yX11_refuse cX11_refuse 3 (some .int), .fieldLink RX11 293 "RestBoard" "refusedBy" "I", .fieldLink RX11 69 "RestBoard" "refusals" "[I", .methodLink RX11 181 yX11_isRaised, .instanceMethod yX11_isRaised, .selects RX11 yX11_isRaised yX11_isRaised, .code yX11_isRaised cX11_isRaised 2 (some .boolean), .fieldLink RX11 10 "RestBoard" "now" "LRestBoard$State;", .fieldLink RX11 187 "RestBoard$State" "raised" "I", .methodLink RX11 106 yX1_keep, .instanceMethod yX1_keep, .selects RX1 yX1_keep yX1_keep, .initialized RX1, .code yX1_keep cX1_keep 2 none, .fieldLink RX1 11 "RestBoard$History" "states" "[LRestBoard$State;", .fieldLink RX1 28 "RestBoard$History" "next" "I", .fieldLink RX1 19 "RestBoard$History" "now" "LRestBoard$State;", .fieldLink RX1 15 "RestBoard$History" "acts" "[I", .fieldLink RX1 24 "RestBoard$History" "kept" "I", .methodLink RX1 35 Lib.Math.min.name, .static Lib.Math.min.name, .initialized "java/lang/Math", .code Lib.Math.min.name Lib.Math.min.code 2 (some .int), .methodLink RX1 31 yX8_take, .instanceMethod yX8_take, .selects RX8 yX8_take yX8_take, .initialized RX8, .code yX8_take cX8_take 2 none, .fieldLink RX8 9 "RestBoard$State" "size" "I", .fieldLink RX8 83 "RestBoard$State" "resting" "I", .fieldLink RX8 86 "RestBoard$State" "raised" "I", .fieldLink RX8 15 "RestBoard$State" "values" "[I", .methodLink RX8 77 arraycopyName, .native arraycopyName, .static arraycopyName, .initialized "java/lang/System", .fieldLink RX8 19 "RestBoard$State" "packed" "[I", .fieldLink RX8 22 "RestBoard$State" "counts" "[I", .fieldLink RX8 25 "RestBoard$State" "forgotten" "[I", .fieldLink RX8 28 "RestBoard$State" "powers" "[I", .fieldLink RX8 31 "RestBoard$State" "lines" "[I", .fieldLink RX8 34 "RestBoard$State" "depths" "[I", .fieldLink RX8 37 "RestBoard$State" "wanting" "[I", .fieldLink RX8 40 "RestBoard$State" "tied" "[I", .fieldLink RX8 43 "RestBoard$State" "oldPowers" "[I", .fieldLink RX8 46 "RestBoard$State" "oldWanting" "[I", .fieldLink RX8 52 "RestBoard$State" "registers" "LRestBoard$Registers;", .fieldLink RX8 61 "RestBoard$State" "notes" "LRestBoard$Log;", .fieldLink RX8 65 "RestBoard$State" "switches" "LRestBoard$Log;", .methodLink RX8 89 yX6_take, .instanceMethod yX6_take, .selects RX6 yX6_take yX6_take, .initialized RX6, .code yX6_take cX6_take 2 none, .fieldLink RX6 9 "RestBoard$Registers" "bytes" "[I", .methodLink RX6 55 arraycopyName, .fieldLink RX6 61 "RestBoard$Registers" "select" "I", .fieldLink RX6 31 "RestBoard$Registers" "reads" "I", .fieldLink RX6 52 "RestBoard$Registers" "writes" "I", .methodLink RX8 93 yX2_take, .instanceMethod yX2_take, .selects RX2 yX2_take yX2_take, .initialized RX2, .code yX2_take cX2_take 2 none, .fieldLink RX2 9 "RestBoard$Log" "who" "[I", .methodLink RX2 25 arraycopyName, .fieldLink RX2 15 "RestBoard$Log" "what" "[I", .fieldLink RX2 22 "RestBoard$Log" "kept" "I", .fieldLink RX2 18 "RestBoard$Log" "next" "I", .methodLink RX11 184 yX7_lift, .instanceMethod yX7_lift, .selects RX7 yX7_lift yX7_lift, .initialized RX7, .code yX7_lift cX7_lift 4 (some .int), .fieldLink RX7 23 "RestBoard$Rests" "machine" "LRestBoard$Machine;", .fieldLink RX7 19 "RestBoard$Rests" "now" "LRestBoard$State;", .fieldLink RX7 70 "RestBoard$State" "raised" "I", .fieldLink RX7 35 "RestBoard$State" "size" "I", .fieldLink RX7 41 "RestBoard$State" "lines" "[I", .methodLink RX7 93 yX3_forgetSteps, .instanceMethod yX3_forgetSteps, .selects RX3 yX3_forgetSteps yX3_forgetSteps, .initialized RX3, .code yX3_forgetSteps cX3_forgetSteps 1 none, .fieldLink RX3 41 "RestBoard$Machine" "steps" "I", .methodLink RX7 154 yX7_tiedTo, .instanceMethod yX7_tiedTo, .selects RX7 yX7_tiedTo yX7_tiedTo, .code yX7_tiedTo cX7_tiedTo 4 (some .int), .methodLink RX11 113 yX11_accept, .instanceMethod yX11_accept, .selects RX11 yX11_accept yX11_accept, .code yX11_accept cX11_accept 2 (some .int)] ++ wsX110 ++ wsX80 ++ wsX10 ++ wsX60 ++ wsX20 ++ wsX70 ++ wsX30)
theorem m_X11_raise_0 : (.fieldLink RX11 65 "RestBoard" "history" "LRestBoard$History;" : Cond) ∈ v_X11_raise := List.mem_of_getElem? (i := 1) (by decide +kernel)
theorem m_X11_raise_1 : (.fieldLink RX11 58 "RestBoard" "rests" "LRestBoard$Rests;" : Cond) ∈ v_X11_raise := List.mem_of_getElem? (i := 2) (by decide +kernel)
theorem i_X11_raise_X11 : ∀ w ∈ u_ws RX11 TX11 11, w ∈ v_X11_raise := fun w h => List.mem_cons_of_mem _ (List.mem_append_left _ (List.mem_append_left _ (List.mem_append_left _ (List.mem_append_left _ (List.mem_append_left _ (List.mem_append_left _ (List.mem_append_right _ h)))))))
set_option maxRecDepth 100000 in
theorem gg_X11_raise_X11_isLine_178 : GoodIn v_X11_raise v_X11_isLine := goodIn_r _ [6] (by decide +kernel) (by decide +kernel)
set_option maxRecDepth 100000 in
theorem g_X11_raise_X11_isLine_178 : GoodIn v_X11_raise (va_wsS RX11 178 yX11_isLine v_X11_isLine) := goodIn_app (goodIn_r _ [3, 4, 5] (by decide +kernel) (by decide +kernel)) gg_X11_raise_X11_isLine_178
set_option maxRecDepth 100000 in
theorem gg_X11_raise_X11_refuse_89 : GoodIn v_X11_raise v_X11_refuse := goodIn_r _ [10, 11, 12, 103, 104, 105, 106, 107, 108, 109, 110, 111, 112, 113] (by decide +kernel) (by decide +kernel)
set_option maxRecDepth 100000 in
theorem g_X11_raise_X11_refuse_89 : GoodIn v_X11_raise (wsV RX11 89 RX11 yX11_refuse v_X11_refuse) := goodIn_app (goodIn_r _ [7, 8, 9, 5] (by decide +kernel) (by decide +kernel)) gg_X11_raise_X11_refuse_89
set_option maxRecDepth 100000 in
theorem gg_X11_raise_X11_isRaised_181 : GoodIn v_X11_raise v_X11_isRaised := goodIn_r _ [16, 17, 18, 103, 104, 105, 106, 107, 108, 109, 110, 111, 112, 113, 114, 115, 116, 117, 118, 119, 120, 121, 122, 123, 124, 125, 126, 127, 128, 129, 130] (by decide +kernel) (by decide +kernel)
set_option maxRecDepth 100000 in
theorem g_X11_raise_X11_isRaised_181 : GoodIn v_X11_raise (wsV RX11 181 RX11 yX11_isRaised v_X11_isRaised) := goodIn_app (goodIn_r _ [13, 14, 15, 5] (by decide +kernel) (by decide +kernel)) gg_X11_raise_X11_isRaised_181
set_option maxRecDepth 100000 in
theorem gg_X11_raise_X1_keep_106 : GoodIn v_X11_raise v_X1_keep := goodIn_r _ [23, 24, 25, 26, 27, 28, 29, 30, 31, 32, 33, 34, 35, 36, 37, 38, 39, 40, 41, 42, 43, 44, 45, 46, 47, 48, 49, 50, 51, 52, 53, 54, 55, 56, 57, 58, 59, 60, 61, 62, 63, 64, 65, 66, 67, 68, 69, 70, 71, 72, 73, 74, 75, 76, 77, 78, 131, 132, 133, 134, 135, 114, 115, 116, 117, 118, 119, 120, 121, 122, 123, 124, 125, 126, 127, 128, 129, 130, 136, 137, 138, 139, 140, 141, 142, 143] (by decide +kernel) (by decide +kernel)
set_option maxRecDepth 100000 in
theorem g_X11_raise_X1_keep_106 : GoodIn v_X11_raise (wsV RX11 106 RX1 yX1_keep v_X1_keep) := goodIn_app (goodIn_r _ [19, 20, 21, 22] (by decide +kernel) (by decide +kernel)) gg_X11_raise_X1_keep_106
set_option maxRecDepth 100000 in
theorem gg_X11_raise_X7_lift_184 : GoodIn v_X11_raise v_X7_lift := goodIn_r _ [83, 84, 85, 86, 87, 88, 89, 90, 91, 92, 93, 94, 95, 96, 97, 82, 98, 144, 145, 146, 147, 148, 114, 115, 116, 117, 118, 119, 120, 121, 122, 123, 124, 125, 126, 127, 128, 129, 130, 149, 150, 151, 152, 153, 154, 155, 156, 157, 158] (by decide +kernel) (by decide +kernel)
set_option maxRecDepth 100000 in
theorem g_X11_raise_X7_lift_184 : GoodIn v_X11_raise (wsV RX11 184 RX7 yX7_lift v_X7_lift) := goodIn_app (goodIn_r _ [79, 80, 81, 82] (by decide +kernel) (by decide +kernel)) gg_X11_raise_X7_lift_184
set_option maxRecDepth 100000 in
theorem gg_X11_raise_X11_accept_113 : GoodIn v_X11_raise v_X11_accept := goodIn_r _ [102, 11, 103, 104, 105, 106, 107, 108, 109, 110, 111, 112, 113] (by decide +kernel) (by decide +kernel)
set_option maxRecDepth 100000 in
theorem g_X11_raise_X11_accept_113 : GoodIn v_X11_raise (wsV RX11 113 RX11 yX11_accept v_X11_accept) := goodIn_app (goodIn_r _ [99, 100, 101, 5] (by decide +kernel) (by decide +kernel)) gg_X11_raise_X11_accept_113
set_option maxHeartbeats 4000000 in
set_option maxRecDepth 100000 in
theorem c_X11_raise (l : Launch) (dC : Nat → ClassId) (dI : Nat → Nat → Nat) (cy : Nat → ClassId) (a : Nat → Nat) (g : Nat → Nat → Option Nat) (sz : Nat) (p0 : Int32) : Met l yX11_raise v_X11_raise ({ frames := 4, cells := 0, slots := 0, locals := 103 }) (va_Pc [.ref (a 0), .int p0] (ps dC dI cy (fw a cy g) sz)) (va_Qi (fun (r : Int32) (_ : Unit) => ((p0 < 0) ∧ r = (-1)) ∨ ((¬ p0 < 0) ∧ ((8 : Int32) ≤ p0) ∧ r = (-1)) ∨ ((¬ p0 < 0) ∧ (¬ (8 : Int32) ≤ p0) ∧ (¬ ((-1) : Int32) = p0) ∧ r = 0)) (fun _ _ => True) (va_A (fw a cy g) sz)) 0 0 (va_A (fw a cy g) sz) := by
  refine Met.ofW (cc := cX11_raise) (maxL := 2) (ret := (some .int)) (by decide) rfl ?_
  intro p e s m args below meth c s₁ B hml hv
  obtain ⟨rfl, hsz, hP, hC, hD0⟩ := hv
  have hK := hC.1
  have hx := B.exec
  have hb := B.bytes
  have hr := B.returns
  have hts := atoms_spec (ws := v_X11_raise) B.pre
  have hown : s.vm.findClass RX11 = some m.cls := findClass_of_methodNamed B.named
  have hlocks := B.notSynchronized
  subst hsz
  have hD := hD0.self (sz := s.heap.size)
  generalize hAe : va_A (fw a cy g) s.heap.size = A at hD ⊢
  have hA : ∀ q : Nat, s.heap.size ≤ q → A q := fun q h => by rw [← hAe]; exact Or.inr h
  have hS : va_S A s.heap s.heap [] := va_S.rf
  have hl := lv_entry ([.ref (a 0), .int p0]) (n := 2) (Nat.le_of_ble_eq_true rfl)
  rw [lg_entry_eq]
  generalize (lg_sl ([.ref (a 0), .int p0]) ++ List.replicate (2 - (lg_sl ([.ref (a 0), .int p0])).length) Slot.unset).toArray = ls at hl ⊢
  have hl : lv_has ls 2 [(0, .ref (a 0)), (1, .int p0)] := hl
  refine lv_iload_n hx hb dX11_raise_0 rfl (lv_at hl 1 rfl) ?_
  refine tk_pi (va_runS (As := [.int p0]) (rest := []) ⟨hx, hb, hml, hown, hts⟩ (c_X11_isLine l dC dI cy  p0) (va_cwS 1 hts g_X11_raise_X11_isLine_178 rfl rfl rfl (by decide +kernel) ⟨Nat.le_of_ble_eq_true rfl, Nat.le_of_ble_eq_true rfl⟩) (pS_pp hC va_P0) rfl rfl hl.1 rfl (lv_room (Nat.le_of_ble_eq_true rfl)) dX11_raise_1 ⟨Nat.le_of_ble_eq_true rfl, Nat.le_of_ble_eq_true rfl⟩) hP hS (fun r_ H locs hw hP hS => ?_)
  rcases hw with ⟨c1_, rfl⟩ | ⟨c2_, c3_, rfl⟩ | ⟨c4_, c5_, rfl⟩
  · skip
    refine lv_if_ne (tgt := 13) hx hb dX11_raise_4 (by decide) (fun c9_ => absurd (by decide) c9_) (fun _ => ?_)
    refine lv_aload_n hx hb dX11_raise_7 rfl (lv_at hl 0 rfl) ?_
    refine lv_iconst (v := (-1)) hx hb dX11_raise_8 (by decide) ?_
    have hPc : va_P (dC, dI) vwCl ([(a 0, .inr (11, [.ref (a 1), .ref (a 60), .ref (a 21), .ref (a 24), .ref (a 28), .ref (a 30), .ref (a 31), .ref (a 32), .ref (a 55), .int 0, .int (-1)])), (a 55, .inl (cy 0, 7, .inl (fun _ => 0)))]) _ := hP.sub [0, 55] rfl
    have hDc := hD.sub (ws' := [(a 0, .inr (11, [.ref (a 1), .ref (a 60), .ref (a 21), .ref (a 24), .ref (a 28), .ref (a 30), .ref (a 31), .ref (a 32), .ref (a 55), .int 0, .int (-1)])), (a 55, .inl (cy 0, 7, .inl (fun _ => 0)))]) [0, 55] (by decide) rfl
    have hFc := va_free (wc := [(a 0, .inr (11, [.ref (a 1), .ref (a 60), .ref (a 21), .ref (a 24), .ref (a 28), .ref (a 30), .ref (a 31), .ref (a 32), .ref (a 55), .int 0, .int (-1)])), (a 55, .inl (cy 0, 7, .inl (fun _ => 0)))]) hD hS hA [0, 55] rfl
    refine va_calli (va_runV (As := [.int (-1)]) (rest := []) ⟨hx, hb, hml, hown, hts⟩ (c_X11_refuse l dC dI cy a g _ (-1) (-1)) (cwV 1 hts g_X11_raise_X11_refuse_89 rfl rfl rfl (by decide +kernel) ⟨Nat.le_of_ble_eq_true rfl, Nat.le_of_ble_eq_true rfl⟩) (pv_ps hC hPc hDc (ci := 11) (q0 := 0) rfl rfl) rfl rfl hl.1 rfl (lv_room (Nat.le_of_ble_eq_true rfl)) dX11_raise_9 ⟨Nat.le_of_ble_eq_true rfl, Nat.le_of_ble_eq_true rfl⟩) hS (fun q _ h => hFc q h) hFc (fun r_ u t_ H1 locs ht hvm hw hB hz1 hk1 hS => ?_)
    obtain ⟨hP, hD⟩ := va_join (wr := []) (w1 := []) hP hD [0, 55] [] rfl rfl (by decide) (by decide) hk1 hFc va_P0 va_D0
    generalize H1 = H at hP hS ⊢
    have hP : va_P (dC, dI) vwCl ([]) H := hP
    have hD : va_D A ([]) := hD
    rcases hw with ⟨c6_, rfl⟩ | ⟨-, c8_, rfl⟩ | ⟨-, -, rfl⟩
    · skip
      exact absurd c6_ (by decide)
    · skip
      exact absurd c8_ (by decide)
    · skip
      exact W.iret (v := (-1)) hx hb hr (fun t ht hW => ⟨⟨(-1), (), rfl, Or.inl (⟨c1_, rfl⟩), trivial⟩, hS.F ht⟩) hS.2.2 dX11_raise_12
  · skip
    refine lv_if_ne (tgt := 13) hx hb dX11_raise_4 (by decide) (fun c9_ => absurd (by decide) c9_) (fun _ => ?_)
    refine lv_aload_n hx hb dX11_raise_7 rfl (lv_at hl 0 rfl) ?_
    refine lv_iconst (v := (-1)) hx hb dX11_raise_8 (by decide) ?_
    have hPc : va_P (dC, dI) vwCl ([(a 0, .inr (11, [.ref (a 1), .ref (a 60), .ref (a 21), .ref (a 24), .ref (a 28), .ref (a 30), .ref (a 31), .ref (a 32), .ref (a 55), .int 0, .int (-1)])), (a 55, .inl (cy 0, 7, .inl (fun _ => 0)))]) _ := hP.sub [0, 55] rfl
    have hDc := hD.sub (ws' := [(a 0, .inr (11, [.ref (a 1), .ref (a 60), .ref (a 21), .ref (a 24), .ref (a 28), .ref (a 30), .ref (a 31), .ref (a 32), .ref (a 55), .int 0, .int (-1)])), (a 55, .inl (cy 0, 7, .inl (fun _ => 0)))]) [0, 55] (by decide) rfl
    have hFc := va_free (wc := [(a 0, .inr (11, [.ref (a 1), .ref (a 60), .ref (a 21), .ref (a 24), .ref (a 28), .ref (a 30), .ref (a 31), .ref (a 32), .ref (a 55), .int 0, .int (-1)])), (a 55, .inl (cy 0, 7, .inl (fun _ => 0)))]) hD hS hA [0, 55] rfl
    refine va_calli (va_runV (As := [.int (-1)]) (rest := []) ⟨hx, hb, hml, hown, hts⟩ (c_X11_refuse l dC dI cy a g _ (-1) (-1)) (cwV 1 hts g_X11_raise_X11_refuse_89 rfl rfl rfl (by decide +kernel) ⟨Nat.le_of_ble_eq_true rfl, Nat.le_of_ble_eq_true rfl⟩) (pv_ps hC hPc hDc (ci := 11) (q0 := 0) rfl rfl) rfl rfl hl.1 rfl (lv_room (Nat.le_of_ble_eq_true rfl)) dX11_raise_9 ⟨Nat.le_of_ble_eq_true rfl, Nat.le_of_ble_eq_true rfl⟩) hS (fun q _ h => hFc q h) hFc (fun r_ u t_ H1 locs ht hvm hw hB hz1 hk1 hS => ?_)
    obtain ⟨hP, hD⟩ := va_join (wr := []) (w1 := []) hP hD [0, 55] [] rfl rfl (by decide) (by decide) hk1 hFc va_P0 va_D0
    generalize H1 = H at hP hS ⊢
    have hP : va_P (dC, dI) vwCl ([]) H := hP
    have hD : va_D A ([]) := hD
    rcases hw with ⟨c11_, rfl⟩ | ⟨-, c13_, rfl⟩ | ⟨-, -, rfl⟩
    · skip
      exact absurd c11_ (by decide)
    · skip
      exact absurd c13_ (by decide)
    · skip
      exact W.iret (v := (-1)) hx hb hr (fun t ht hW => ⟨⟨(-1), (), rfl, Or.inr (Or.inl (⟨c2_, c3_, rfl⟩)), trivial⟩, hS.F ht⟩) hS.2.2 dX11_raise_12
  · skip
    refine lv_if_ne (tgt := 13) hx hb dX11_raise_4 (by decide) (fun _ => ?_) (fun c9_ => absurd c9_ (by decide))
    refine lv_aload_n hx hb dX11_raise_13 rfl (lv_at hl 0 rfl) ?_
    refine lv_iload_n hx hb dX11_raise_14 rfl (lv_at hl 1 rfl) ?_
    refine tk_pi (va_runV (As := [.int p0]) (rest := []) ⟨hx, hb, hml, hown, hts⟩ (c_X11_isRaised l dC dI cy a g p0) (cwV 1 hts g_X11_raise_X11_isRaised_181 rfl rfl rfl (by decide +kernel) ⟨Nat.le_of_ble_eq_true rfl, Nat.le_of_ble_eq_true rfl⟩) (pv_pp hC hP (ci := 11) (q0 := 0) rfl rfl) rfl rfl hl.1 rfl (lv_room (Nat.le_of_ble_eq_true rfl)) dX11_raise_15 ⟨Nat.le_of_ble_eq_true rfl, Nat.le_of_ble_eq_true rfl⟩) hP hS (fun r_ H locs hw hP hS => ?_)
    subst hw
    refine lv_if_eq (tgt := 28) hx hb dX11_raise_18 (by decide) (fun _ => ?_) (fun c9_ => absurd (by decide) c9_)
    refine lv_aload_n hx hb dX11_raise_28 rfl (lv_at hl 0 rfl) ?_
    refine va_get (D := (dC, dI)) (ci := 11) (v := .ref (a 32)) (C := RX11) (T := TX11) (N := 11) hx hb hts i_X11_raise_X11 hown hK hP 0 rfl rfl 7 (by decide) (hts _ m_X11_raise_0) (fun _ h9 => h9) rfl dX11_raise_29 ?_
    refine lv_bipush (v := 7) hx hb dX11_raise_32 (by decide) ?_
    have hP := hP.sub (ws' := [(a 0, .inr (11, [.ref (a 1), .ref (a 60), .ref (a 21), .ref (a 24), .ref (a 28), .ref (a 30), .ref (a 31), .ref (a 32), .ref (a 55), .int 0, .int (-1)])), (a 1, .inr (8, [.int 1, .int 0, .int 0, .ref (a 2), .ref (a 3), .ref (a 4), .ref (a 5), .ref (a 6), .ref (a 7), .ref (a 8), .ref (a 9), .ref (a 10), .ref (a 11), .ref (a 12), .ref (a 13), .ref (a 15), .ref (a 18)])), (a 2, .inl (cy 0, 32, .inl (fun _ => 0))), (a 3, .inl (cy 0, 192, .inl (fun _ => 0))), (a 4, .inl (cy 0, 32, .inl (fun _ => 0))), (a 5, .inl (cy 0, 32, .inl (fun _ => 0))), (a 6, .inl (cy 0, 32, .inl (fun _ => 0))), (a 7, .inl (cy 0, 32, .inl (fun _ => (-1)))), (a 8, .inl (cy 0, 32, .inl (fun _ => 0))), (a 9, .inl (cy 0, 192, .inl (fun _ => (-1)))), (a 10, .inl (cy 0, 128, .inl (fun _ => (-1)))), (a 11, .inl (cy 0, 32, .inl (fun _ => 0))), (a 12, .inl (cy 0, 192, .inl (fun _ => 0))), (a 13, .inr (6, [.ref (a 14), .int 0, .int 0, .int 0])), (a 14, .inl (cy 0, 40, .inl (fun _ => 0))), (a 15, .inr (2, [.ref (a 16), .ref (a 17), .int 0, .int 0])), (a 16, .inl (cy 0, 16, .inl (fun _ => 0))), (a 17, .inl (cy 0, 16, .inl (fun _ => 0))), (a 18, .inr (2, [.ref (a 19), .ref (a 20), .int 0, .int 0])), (a 19, .inl (cy 0, 32, .inl (fun _ => 0))), (a 20, .inl (cy 0, 32, .inl (fun _ => 0))), (a 28, .inr (3, [.ref (a 21), .ref (a 1), .ref (a 65), .int 0, .int 0, .int 0, .int 0, .ref (a 29), .ref (a 66), .int 0])), (a 31, .inr (7, [.ref (a 21), .ref (a 1), .ref (a 28), .ref (a 30), .ref (a 69)])), (a 32, .inr (1, [.ref (a 1), .ref (a 33), .ref (a 34), .int 0, .int 0])), (a 33, .inl (cy 2, 8, .inr (.inr (.inr (.inr (va_up (g 1) 0 (some (a 35)))))))), (a 34, .inl (cy 0, 8, .inl (fun _ => 0))), (a 35, .inr (8, [.int 1, .int 0, .int 0, .ref (a 36), .ref (a 37), .ref (a 38), .ref (a 39), .ref (a 40), .ref (a 41), .ref (a 42), .ref (a 43), .ref (a 44), .ref (a 45), .ref (a 46), .ref (a 47), .ref (a 49), .ref (a 52)])), (a 36, .inl (cy 0, 32, .inl (fun _ => 0))), (a 37, .inl (cy 0, 192, .inl (fun _ => 0))), (a 38, .inl (cy 0, 32, .inl (fun _ => 0))), (a 39, .inl (cy 0, 32, .inl (fun _ => 0))), (a 40, .inl (cy 0, 32, .inl (fun _ => 0))), (a 41, .inl (cy 0, 32, .inl (fun _ => (-1)))), (a 42, .inl (cy 0, 32, .inl (fun _ => 0))), (a 43, .inl (cy 0, 192, .inl (fun _ => (-1)))), (a 44, .inl (cy 0, 128, .inl (fun _ => (-1)))), (a 45, .inl (cy 0, 32, .inl (fun _ => 0))), (a 46, .inl (cy 0, 192, .inl (fun _ => 0))), (a 47, .inr (6, [.ref (a 48), .int 0, .int 0, .int 0])), (a 48, .inl (cy 0, 40, .inl (fun _ => 0))), (a 49, .inr (2, [.ref (a 50), .ref (a 51), .int 0, .int 0])), (a 50, .inl (cy 0, 16, .inl (fun _ => 0))), (a 51, .inl (cy 0, 16, .inl (fun _ => 0))), (a 52, .inr (2, [.ref (a 53), .ref (a 54), .int 0, .int 0])), (a 53, .inl (cy 0, 32, .inl (fun _ => 0))), (a 54, .inl (cy 0, 32, .inl (fun _ => 0)))]) [0, 1, 2, 3, 4, 5, 6, 7, 8, 9, 10, 11, 12, 13, 14, 15, 16, 17, 18, 19, 20, 28, 31, 32, 33, 34, 35, 36, 37, 38, 39, 40, 41, 42, 43, 44, 45, 46, 47, 48, 49, 50, 51, 52, 53, 54] rfl
    have hD := hD.sub (ws' := [(a 0, .inr (11, [.ref (a 1), .ref (a 60), .ref (a 21), .ref (a 24), .ref (a 28), .ref (a 30), .ref (a 31), .ref (a 32), .ref (a 55), .int 0, .int (-1)])), (a 1, .inr (8, [.int 1, .int 0, .int 0, .ref (a 2), .ref (a 3), .ref (a 4), .ref (a 5), .ref (a 6), .ref (a 7), .ref (a 8), .ref (a 9), .ref (a 10), .ref (a 11), .ref (a 12), .ref (a 13), .ref (a 15), .ref (a 18)])), (a 2, .inl (cy 0, 32, .inl (fun _ => 0))), (a 3, .inl (cy 0, 192, .inl (fun _ => 0))), (a 4, .inl (cy 0, 32, .inl (fun _ => 0))), (a 5, .inl (cy 0, 32, .inl (fun _ => 0))), (a 6, .inl (cy 0, 32, .inl (fun _ => 0))), (a 7, .inl (cy 0, 32, .inl (fun _ => (-1)))), (a 8, .inl (cy 0, 32, .inl (fun _ => 0))), (a 9, .inl (cy 0, 192, .inl (fun _ => (-1)))), (a 10, .inl (cy 0, 128, .inl (fun _ => (-1)))), (a 11, .inl (cy 0, 32, .inl (fun _ => 0))), (a 12, .inl (cy 0, 192, .inl (fun _ => 0))), (a 13, .inr (6, [.ref (a 14), .int 0, .int 0, .int 0])), (a 14, .inl (cy 0, 40, .inl (fun _ => 0))), (a 15, .inr (2, [.ref (a 16), .ref (a 17), .int 0, .int 0])), (a 16, .inl (cy 0, 16, .inl (fun _ => 0))), (a 17, .inl (cy 0, 16, .inl (fun _ => 0))), (a 18, .inr (2, [.ref (a 19), .ref (a 20), .int 0, .int 0])), (a 19, .inl (cy 0, 32, .inl (fun _ => 0))), (a 20, .inl (cy 0, 32, .inl (fun _ => 0))), (a 28, .inr (3, [.ref (a 21), .ref (a 1), .ref (a 65), .int 0, .int 0, .int 0, .int 0, .ref (a 29), .ref (a 66), .int 0])), (a 31, .inr (7, [.ref (a 21), .ref (a 1), .ref (a 28), .ref (a 30), .ref (a 69)])), (a 32, .inr (1, [.ref (a 1), .ref (a 33), .ref (a 34), .int 0, .int 0])), (a 33, .inl (cy 2, 8, .inr (.inr (.inr (.inr (va_up (g 1) 0 (some (a 35)))))))), (a 34, .inl (cy 0, 8, .inl (fun _ => 0))), (a 35, .inr (8, [.int 1, .int 0, .int 0, .ref (a 36), .ref (a 37), .ref (a 38), .ref (a 39), .ref (a 40), .ref (a 41), .ref (a 42), .ref (a 43), .ref (a 44), .ref (a 45), .ref (a 46), .ref (a 47), .ref (a 49), .ref (a 52)])), (a 36, .inl (cy 0, 32, .inl (fun _ => 0))), (a 37, .inl (cy 0, 192, .inl (fun _ => 0))), (a 38, .inl (cy 0, 32, .inl (fun _ => 0))), (a 39, .inl (cy 0, 32, .inl (fun _ => 0))), (a 40, .inl (cy 0, 32, .inl (fun _ => 0))), (a 41, .inl (cy 0, 32, .inl (fun _ => (-1)))), (a 42, .inl (cy 0, 32, .inl (fun _ => 0))), (a 43, .inl (cy 0, 192, .inl (fun _ => (-1)))), (a 44, .inl (cy 0, 128, .inl (fun _ => (-1)))), (a 45, .inl (cy 0, 32, .inl (fun _ => 0))), (a 46, .inl (cy 0, 192, .inl (fun _ => 0))), (a 47, .inr (6, [.ref (a 48), .int 0, .int 0, .int 0])), (a 48, .inl (cy 0, 40, .inl (fun _ => 0))), (a 49, .inr (2, [.ref (a 50), .ref (a 51), .int 0, .int 0])), (a 50, .inl (cy 0, 16, .inl (fun _ => 0))), (a 51, .inl (cy 0, 16, .inl (fun _ => 0))), (a 52, .inr (2, [.ref (a 53), .ref (a 54), .int 0, .int 0])), (a 53, .inl (cy 0, 32, .inl (fun _ => 0))), (a 54, .inl (cy 0, 32, .inl (fun _ => 0)))]) [0, 1, 2, 3, 4, 5, 6, 7, 8, 9, 10, 11, 12, 13, 14, 15, 16, 17, 18, 19, 20, 28, 31, 32, 33, 34, 35, 36, 37, 38, 39, 40, 41, 42, 43, 44, 45, 46, 47, 48, 49, 50, 51, 52, 53, 54] (by decide) rfl
    have hPc : va_P (dC, dI) vwCl ([(a 32, .inr (1, [.ref (a 1), .ref (a 33), .ref (a 34), .int 0, .int 0])), (a 33, .inl (cy 2, 8, .inr (.inr (.inr (.inr (va_up (g 1) 0 (some (a 35)))))))), (a 34, .inl (cy 0, 8, .inl (fun _ => 0))), (a 35, .inr (8, [.int 1, .int 0, .int 0, .ref (a 36), .ref (a 37), .ref (a 38), .ref (a 39), .ref (a 40), .ref (a 41), .ref (a 42), .ref (a 43), .ref (a 44), .ref (a 45), .ref (a 46), .ref (a 47), .ref (a 49), .ref (a 52)])), (a 36, .inl (cy 0, 32, .inl (fun _ => 0))), (a 37, .inl (cy 0, 192, .inl (fun _ => 0))), (a 38, .inl (cy 0, 32, .inl (fun _ => 0))), (a 39, .inl (cy 0, 32, .inl (fun _ => 0))), (a 40, .inl (cy 0, 32, .inl (fun _ => 0))), (a 41, .inl (cy 0, 32, .inl (fun _ => (-1)))), (a 42, .inl (cy 0, 32, .inl (fun _ => 0))), (a 43, .inl (cy 0, 192, .inl (fun _ => (-1)))), (a 44, .inl (cy 0, 128, .inl (fun _ => (-1)))), (a 45, .inl (cy 0, 32, .inl (fun _ => 0))), (a 46, .inl (cy 0, 192, .inl (fun _ => 0))), (a 47, .inr (6, [.ref (a 48), .int 0, .int 0, .int 0])), (a 48, .inl (cy 0, 40, .inl (fun _ => 0))), (a 49, .inr (2, [.ref (a 50), .ref (a 51), .int 0, .int 0])), (a 50, .inl (cy 0, 16, .inl (fun _ => 0))), (a 51, .inl (cy 0, 16, .inl (fun _ => 0))), (a 52, .inr (2, [.ref (a 53), .ref (a 54), .int 0, .int 0])), (a 53, .inl (cy 0, 32, .inl (fun _ => 0))), (a 54, .inl (cy 0, 32, .inl (fun _ => 0))), (a 1, .inr (8, [.int 1, .int 0, .int 0, .ref (a 2), .ref (a 3), .ref (a 4), .ref (a 5), .ref (a 6), .ref (a 7), .ref (a 8), .ref (a 9), .ref (a 10), .ref (a 11), .ref (a 12), .ref (a 13), .ref (a 15), .ref (a 18)])), (a 2, .inl (cy 0, 32, .inl (fun _ => 0))), (a 3, .inl (cy 0, 192, .inl (fun _ => 0))), (a 4, .inl (cy 0, 32, .inl (fun _ => 0))), (a 5, .inl (cy 0, 32, .inl (fun _ => 0))), (a 6, .inl (cy 0, 32, .inl (fun _ => 0))), (a 7, .inl (cy 0, 32, .inl (fun _ => (-1)))), (a 8, .inl (cy 0, 32, .inl (fun _ => 0))), (a 9, .inl (cy 0, 192, .inl (fun _ => (-1)))), (a 10, .inl (cy 0, 128, .inl (fun _ => (-1)))), (a 11, .inl (cy 0, 32, .inl (fun _ => 0))), (a 12, .inl (cy 0, 192, .inl (fun _ => 0))), (a 13, .inr (6, [.ref (a 14), .int 0, .int 0, .int 0])), (a 14, .inl (cy 0, 40, .inl (fun _ => 0))), (a 15, .inr (2, [.ref (a 16), .ref (a 17), .int 0, .int 0])), (a 16, .inl (cy 0, 16, .inl (fun _ => 0))), (a 17, .inl (cy 0, 16, .inl (fun _ => 0))), (a 18, .inr (2, [.ref (a 19), .ref (a 20), .int 0, .int 0])), (a 19, .inl (cy 0, 32, .inl (fun _ => 0))), (a 20, .inl (cy 0, 32, .inl (fun _ => 0)))]) _ := hP.sub [23, 24, 25, 26, 27, 28, 29, 30, 31, 32, 33, 34, 35, 36, 37, 38, 39, 40, 41, 42, 43, 44, 45, 1, 2, 3, 4, 5, 6, 7, 8, 9, 10, 11, 12, 13, 14, 15, 16, 17, 18, 19, 20] rfl
    have hDc := hD.sub (ws' := [(a 32, .inr (1, [.ref (a 1), .ref (a 33), .ref (a 34), .int 0, .int 0])), (a 33, .inl (cy 2, 8, .inr (.inr (.inr (.inr (va_up (g 1) 0 (some (a 35)))))))), (a 34, .inl (cy 0, 8, .inl (fun _ => 0))), (a 35, .inr (8, [.int 1, .int 0, .int 0, .ref (a 36), .ref (a 37), .ref (a 38), .ref (a 39), .ref (a 40), .ref (a 41), .ref (a 42), .ref (a 43), .ref (a 44), .ref (a 45), .ref (a 46), .ref (a 47), .ref (a 49), .ref (a 52)])), (a 36, .inl (cy 0, 32, .inl (fun _ => 0))), (a 37, .inl (cy 0, 192, .inl (fun _ => 0))), (a 38, .inl (cy 0, 32, .inl (fun _ => 0))), (a 39, .inl (cy 0, 32, .inl (fun _ => 0))), (a 40, .inl (cy 0, 32, .inl (fun _ => 0))), (a 41, .inl (cy 0, 32, .inl (fun _ => (-1)))), (a 42, .inl (cy 0, 32, .inl (fun _ => 0))), (a 43, .inl (cy 0, 192, .inl (fun _ => (-1)))), (a 44, .inl (cy 0, 128, .inl (fun _ => (-1)))), (a 45, .inl (cy 0, 32, .inl (fun _ => 0))), (a 46, .inl (cy 0, 192, .inl (fun _ => 0))), (a 47, .inr (6, [.ref (a 48), .int 0, .int 0, .int 0])), (a 48, .inl (cy 0, 40, .inl (fun _ => 0))), (a 49, .inr (2, [.ref (a 50), .ref (a 51), .int 0, .int 0])), (a 50, .inl (cy 0, 16, .inl (fun _ => 0))), (a 51, .inl (cy 0, 16, .inl (fun _ => 0))), (a 52, .inr (2, [.ref (a 53), .ref (a 54), .int 0, .int 0])), (a 53, .inl (cy 0, 32, .inl (fun _ => 0))), (a 54, .inl (cy 0, 32, .inl (fun _ => 0))), (a 1, .inr (8, [.int 1, .int 0, .int 0, .ref (a 2), .ref (a 3), .ref (a 4), .ref (a 5), .ref (a 6), .ref (a 7), .ref (a 8), .ref (a 9), .ref (a 10), .ref (a 11), .ref (a 12), .ref (a 13), .ref (a 15), .ref (a 18)])), (a 2, .inl (cy 0, 32, .inl (fun _ => 0))), (a 3, .inl (cy 0, 192, .inl (fun _ => 0))), (a 4, .inl (cy 0, 32, .inl (fun _ => 0))), (a 5, .inl (cy 0, 32, .inl (fun _ => 0))), (a 6, .inl (cy 0, 32, .inl (fun _ => 0))), (a 7, .inl (cy 0, 32, .inl (fun _ => (-1)))), (a 8, .inl (cy 0, 32, .inl (fun _ => 0))), (a 9, .inl (cy 0, 192, .inl (fun _ => (-1)))), (a 10, .inl (cy 0, 128, .inl (fun _ => (-1)))), (a 11, .inl (cy 0, 32, .inl (fun _ => 0))), (a 12, .inl (cy 0, 192, .inl (fun _ => 0))), (a 13, .inr (6, [.ref (a 14), .int 0, .int 0, .int 0])), (a 14, .inl (cy 0, 40, .inl (fun _ => 0))), (a 15, .inr (2, [.ref (a 16), .ref (a 17), .int 0, .int 0])), (a 16, .inl (cy 0, 16, .inl (fun _ => 0))), (a 17, .inl (cy 0, 16, .inl (fun _ => 0))), (a 18, .inr (2, [.ref (a 19), .ref (a 20), .int 0, .int 0])), (a 19, .inl (cy 0, 32, .inl (fun _ => 0))), (a 20, .inl (cy 0, 32, .inl (fun _ => 0)))]) [23, 24, 25, 26, 27, 28, 29, 30, 31, 32, 33, 34, 35, 36, 37, 38, 39, 40, 41, 42, 43, 44, 45, 1, 2, 3, 4, 5, 6, 7, 8, 9, 10, 11, 12, 13, 14, 15, 16, 17, 18, 19, 20] (by decide) rfl
    have hFc := va_free (wc := [(a 32, .inr (1, [.ref (a 1), .ref (a 33), .ref (a 34), .int 0, .int 0])), (a 33, .inl (cy 2, 8, .inr (.inr (.inr (.inr (va_up (g 1) 0 (some (a 35)))))))), (a 34, .inl (cy 0, 8, .inl (fun _ => 0))), (a 35, .inr (8, [.int 1, .int 0, .int 0, .ref (a 36), .ref (a 37), .ref (a 38), .ref (a 39), .ref (a 40), .ref (a 41), .ref (a 42), .ref (a 43), .ref (a 44), .ref (a 45), .ref (a 46), .ref (a 47), .ref (a 49), .ref (a 52)])), (a 36, .inl (cy 0, 32, .inl (fun _ => 0))), (a 37, .inl (cy 0, 192, .inl (fun _ => 0))), (a 38, .inl (cy 0, 32, .inl (fun _ => 0))), (a 39, .inl (cy 0, 32, .inl (fun _ => 0))), (a 40, .inl (cy 0, 32, .inl (fun _ => 0))), (a 41, .inl (cy 0, 32, .inl (fun _ => (-1)))), (a 42, .inl (cy 0, 32, .inl (fun _ => 0))), (a 43, .inl (cy 0, 192, .inl (fun _ => (-1)))), (a 44, .inl (cy 0, 128, .inl (fun _ => (-1)))), (a 45, .inl (cy 0, 32, .inl (fun _ => 0))), (a 46, .inl (cy 0, 192, .inl (fun _ => 0))), (a 47, .inr (6, [.ref (a 48), .int 0, .int 0, .int 0])), (a 48, .inl (cy 0, 40, .inl (fun _ => 0))), (a 49, .inr (2, [.ref (a 50), .ref (a 51), .int 0, .int 0])), (a 50, .inl (cy 0, 16, .inl (fun _ => 0))), (a 51, .inl (cy 0, 16, .inl (fun _ => 0))), (a 52, .inr (2, [.ref (a 53), .ref (a 54), .int 0, .int 0])), (a 53, .inl (cy 0, 32, .inl (fun _ => 0))), (a 54, .inl (cy 0, 32, .inl (fun _ => 0))), (a 1, .inr (8, [.int 1, .int 0, .int 0, .ref (a 2), .ref (a 3), .ref (a 4), .ref (a 5), .ref (a 6), .ref (a 7), .ref (a 8), .ref (a 9), .ref (a 10), .ref (a 11), .ref (a 12), .ref (a 13), .ref (a 15), .ref (a 18)])), (a 2, .inl (cy 0, 32, .inl (fun _ => 0))), (a 3, .inl (cy 0, 192, .inl (fun _ => 0))), (a 4, .inl (cy 0, 32, .inl (fun _ => 0))), (a 5, .inl (cy 0, 32, .inl (fun _ => 0))), (a 6, .inl (cy 0, 32, .inl (fun _ => 0))), (a 7, .inl (cy 0, 32, .inl (fun _ => (-1)))), (a 8, .inl (cy 0, 32, .inl (fun _ => 0))), (a 9, .inl (cy 0, 192, .inl (fun _ => (-1)))), (a 10, .inl (cy 0, 128, .inl (fun _ => (-1)))), (a 11, .inl (cy 0, 32, .inl (fun _ => 0))), (a 12, .inl (cy 0, 192, .inl (fun _ => 0))), (a 13, .inr (6, [.ref (a 14), .int 0, .int 0, .int 0])), (a 14, .inl (cy 0, 40, .inl (fun _ => 0))), (a 15, .inr (2, [.ref (a 16), .ref (a 17), .int 0, .int 0])), (a 16, .inl (cy 0, 16, .inl (fun _ => 0))), (a 17, .inl (cy 0, 16, .inl (fun _ => 0))), (a 18, .inr (2, [.ref (a 19), .ref (a 20), .int 0, .int 0])), (a 19, .inl (cy 0, 32, .inl (fun _ => 0))), (a 20, .inl (cy 0, 32, .inl (fun _ => 0)))]) hD hS hA [23, 24, 25, 26, 27, 28, 29, 30, 31, 32, 33, 34, 35, 36, 37, 38, 39, 40, 41, 42, 43, 44, 45, 1, 2, 3, 4, 5, 6, 7, 8, 9, 10, 11, 12, 13, 14, 15, 16, 17, 18, 19, 20] rfl
    refine va_callv (va_runV (As := [.int 7]) (rest := []) ⟨hx, hb, hml, hown, hts⟩ (c_X1_keep l dC dI cy a g _) (cwV 1 hts g_X11_raise_X1_keep_106 rfl rfl rfl (by decide +kernel) ⟨Nat.le_of_ble_eq_true rfl, Nat.le_of_ble_eq_true rfl⟩) (pv_ps hC hPc hDc (ci := 1) (q0 := 0) rfl rfl) rfl rfl hl.1 rfl (lv_room (Nat.le_of_ble_eq_true rfl)) dX11_raise_34 ⟨Nat.le_of_ble_eq_true rfl, Nat.le_of_ble_eq_true rfl⟩) hS (fun q _ h => hFc q h) hFc (fun u t_ H1 locs ht hvm hw hB hz1 hk1 hS => ?_)
    obtain ⟨u16_, rfl⟩ : ∃ z, z = u := ⟨_, rfl⟩
    obtain ⟨hP1, hD1⟩ := hB
    rw [ht] at hP1
    obtain ⟨hP, hD⟩ := va_join (wr := [(a 0, .inr (11, [.ref (a 1), .ref (a 60), .ref (a 21), .ref (a 24), .ref (a 28), .ref (a 30), .ref (a 31), .ref (a 32), .ref (a 55), .int 0, .int (-1)])), (a 28, .inr (3, [.ref (a 21), .ref (a 1), .ref (a 65), .int 0, .int 0, .int 0, .int 0, .ref (a 29), .ref (a 66), .int 0])), (a 31, .inr (7, [.ref (a 21), .ref (a 1), .ref (a 28), .ref (a 30), .ref (a 69)]))]) (w1 := [(a 1, .inr (8, [.int 1, .int 0, .int 0, .ref (a 2), .ref (a 3), .ref (a 4), .ref (a 5), .ref (a 6), .ref (a 7), .ref (a 8), .ref (a 9), .ref (a 10), .ref (a 11), .ref (a 12), .ref (a 13), .ref (a 15), .ref (a 18)])), (a 2, .inl (cy 0, 32, .inl (fun _ => 0))), (a 3, .inl (cy 0, 192, .inl (fun _ => 0))), (a 4, .inl (cy 0, 32, .inl (fun _ => 0))), (a 5, .inl (cy 0, 32, .inl (fun _ => 0))), (a 6, .inl (cy 0, 32, .inl (fun _ => 0))), (a 7, .inl (cy 0, 32, .inl (fun _ => (-1)))), (a 8, .inl (cy 0, 32, .inl (fun _ => 0))), (a 9, .inl (cy 0, 192, .inl (fun _ => (-1)))), (a 10, .inl (cy 0, 128, .inl (fun _ => (-1)))), (a 11, .inl (cy 0, 32, .inl (fun _ => 0))), (a 12, .inl (cy 0, 192, .inl (fun _ => 0))), (a 13, .inr (6, [.ref (a 14), .int 0, .int 0, .int 0])), (a 14, .inl (cy 0, 40, .inl (fun _ => 0))), (a 15, .inr (2, [.ref (a 16), .ref (a 17), .int 0, .int 0])), (a 16, .inl (cy 0, 16, .inl (fun _ => 0))), (a 17, .inl (cy 0, 16, .inl (fun _ => 0))), (a 18, .inr (2, [.ref (a 19), .ref (a 20), .int 0, .int 0])), (a 19, .inl (cy 0, 32, .inl (fun _ => 0))), (a 20, .inl (cy 0, 32, .inl (fun _ => 0)))]) hP hD [23, 24, 25, 26, 27, 28, 29, 30, 31, 32, 33, 34, 35, 36, 37, 38, 39, 40, 41, 42, 43, 44, 45, 1, 2, 3, 4, 5, 6, 7, 8, 9, 10, 11, 12, 13, 14, 15, 16, 17, 18, 19, 20] [0, 21, 22] rfl rfl (by decide) (by decide) hk1 hFc hP1 hD1
    generalize H1 = H at hP hS ⊢
    have hP : va_P (dC, dI) vwCl ([(a 0, .inr (11, [.ref (a 1), .ref (a 60), .ref (a 21), .ref (a 24), .ref (a 28), .ref (a 30), .ref (a 31), .ref (a 32), .ref (a 55), .int 0, .int (-1)])), (a 28, .inr (3, [.ref (a 21), .ref (a 1), .ref (a 65), .int 0, .int 0, .int 0, .int 0, .ref (a 29), .ref (a 66), .int 0])), (a 31, .inr (7, [.ref (a 21), .ref (a 1), .ref (a 28), .ref (a 30), .ref (a 69)])), (a 1, .inr (8, [.int 1, .int 0, .int 0, .ref (a 2), .ref (a 3), .ref (a 4), .ref (a 5), .ref (a 6), .ref (a 7), .ref (a 8), .ref (a 9), .ref (a 10), .ref (a 11), .ref (a 12), .ref (a 13), .ref (a 15), .ref (a 18)])), (a 2, .inl (cy 0, 32, .inl (fun _ => 0))), (a 3, .inl (cy 0, 192, .inl (fun _ => 0))), (a 4, .inl (cy 0, 32, .inl (fun _ => 0))), (a 5, .inl (cy 0, 32, .inl (fun _ => 0))), (a 6, .inl (cy 0, 32, .inl (fun _ => 0))), (a 7, .inl (cy 0, 32, .inl (fun _ => (-1)))), (a 8, .inl (cy 0, 32, .inl (fun _ => 0))), (a 9, .inl (cy 0, 192, .inl (fun _ => (-1)))), (a 10, .inl (cy 0, 128, .inl (fun _ => (-1)))), (a 11, .inl (cy 0, 32, .inl (fun _ => 0))), (a 12, .inl (cy 0, 192, .inl (fun _ => 0))), (a 13, .inr (6, [.ref (a 14), .int 0, .int 0, .int 0])), (a 14, .inl (cy 0, 40, .inl (fun _ => 0))), (a 15, .inr (2, [.ref (a 16), .ref (a 17), .int 0, .int 0])), (a 16, .inl (cy 0, 16, .inl (fun _ => 0))), (a 17, .inl (cy 0, 16, .inl (fun _ => 0))), (a 18, .inr (2, [.ref (a 19), .ref (a 20), .int 0, .int 0])), (a 19, .inl (cy 0, 32, .inl (fun _ => 0))), (a 20, .inl (cy 0, 32, .inl (fun _ => 0)))]) H := hP
    have hD : va_D A ([(a 0, .inr (11, [.ref (a 1), .ref (a 60), .ref (a 21), .ref (a 24), .ref (a 28), .ref (a 30), .ref (a 31), .ref (a 32), .ref (a 55), .int 0, .int (-1)])), (a 28, .inr (3, [.ref (a 21), .ref (a 1), .ref (a 65), .int 0, .int 0, .int 0, .int 0, .ref (a 29), .ref (a 66), .int 0])), (a 31, .inr (7, [.ref (a 21), .ref (a 1), .ref (a 28), .ref (a 30), .ref (a 69)])), (a 1, .inr (8, [.int 1, .int 0, .int 0, .ref (a 2), .ref (a 3), .ref (a 4), .ref (a 5), .ref (a 6), .ref (a 7), .ref (a 8), .ref (a 9), .ref (a 10), .ref (a 11), .ref (a 12), .ref (a 13), .ref (a 15), .ref (a 18)])), (a 2, .inl (cy 0, 32, .inl (fun _ => 0))), (a 3, .inl (cy 0, 192, .inl (fun _ => 0))), (a 4, .inl (cy 0, 32, .inl (fun _ => 0))), (a 5, .inl (cy 0, 32, .inl (fun _ => 0))), (a 6, .inl (cy 0, 32, .inl (fun _ => 0))), (a 7, .inl (cy 0, 32, .inl (fun _ => (-1)))), (a 8, .inl (cy 0, 32, .inl (fun _ => 0))), (a 9, .inl (cy 0, 192, .inl (fun _ => (-1)))), (a 10, .inl (cy 0, 128, .inl (fun _ => (-1)))), (a 11, .inl (cy 0, 32, .inl (fun _ => 0))), (a 12, .inl (cy 0, 192, .inl (fun _ => 0))), (a 13, .inr (6, [.ref (a 14), .int 0, .int 0, .int 0])), (a 14, .inl (cy 0, 40, .inl (fun _ => 0))), (a 15, .inr (2, [.ref (a 16), .ref (a 17), .int 0, .int 0])), (a 16, .inl (cy 0, 16, .inl (fun _ => 0))), (a 17, .inl (cy 0, 16, .inl (fun _ => 0))), (a 18, .inr (2, [.ref (a 19), .ref (a 20), .int 0, .int 0])), (a 19, .inl (cy 0, 32, .inl (fun _ => 0))), (a 20, .inl (cy 0, 32, .inl (fun _ => 0)))]) := hD
    refine lv_aload_n hx hb dX11_raise_37 rfl (lv_at hl 0 rfl) ?_
    refine lv_aload_n hx hb dX11_raise_38 rfl (lv_at hl 0 rfl) ?_
    refine va_get (D := (dC, dI)) (ci := 11) (v := .ref (a 31)) (C := RX11) (T := TX11) (N := 11) hx hb hts i_X11_raise_X11 hown hK hP 0 rfl rfl 6 (by decide) (hts _ m_X11_raise_1) (fun _ h9 => h9) rfl dX11_raise_39 ?_
    refine lv_iload_n hx hb dX11_raise_42 rfl (lv_at hl 1 rfl) ?_
    have hPc : va_P (dC, dI) vwCl ([(a 31, .inr (7, [.ref (a 21), .ref (a 1), .ref (a 28), .ref (a 30), .ref (a 69)])), (a 28, .inr (3, [.ref (a 21), .ref (a 1), .ref (a 65), .int 0, .int 0, .int 0, .int 0, .ref (a 29), .ref (a 66), .int 0])), (a 1, .inr (8, [.int 1, .int 0, .int 0, .ref (a 2), .ref (a 3), .ref (a 4), .ref (a 5), .ref (a 6), .ref (a 7), .ref (a 8), .ref (a 9), .ref (a 10), .ref (a 11), .ref (a 12), .ref (a 13), .ref (a 15), .ref (a 18)])), (a 7, .inl (cy 0, 32, .inl (fun _ => (-1))))]) _ := hP.sub [2, 1, 3, 9] rfl
    have hDc := hD.sub (ws' := [(a 31, .inr (7, [.ref (a 21), .ref (a 1), .ref (a 28), .ref (a 30), .ref (a 69)])), (a 28, .inr (3, [.ref (a 21), .ref (a 1), .ref (a 65), .int 0, .int 0, .int 0, .int 0, .ref (a 29), .ref (a 66), .int 0])), (a 1, .inr (8, [.int 1, .int 0, .int 0, .ref (a 2), .ref (a 3), .ref (a 4), .ref (a 5), .ref (a 6), .ref (a 7), .ref (a 8), .ref (a 9), .ref (a 10), .ref (a 11), .ref (a 12), .ref (a 13), .ref (a 15), .ref (a 18)])), (a 7, .inl (cy 0, 32, .inl (fun _ => (-1))))]) [2, 1, 3, 9] (by decide) rfl
    have hFc := va_free (wc := [(a 31, .inr (7, [.ref (a 21), .ref (a 1), .ref (a 28), .ref (a 30), .ref (a 69)])), (a 28, .inr (3, [.ref (a 21), .ref (a 1), .ref (a 65), .int 0, .int 0, .int 0, .int 0, .ref (a 29), .ref (a 66), .int 0])), (a 1, .inr (8, [.int 1, .int 0, .int 0, .ref (a 2), .ref (a 3), .ref (a 4), .ref (a 5), .ref (a 6), .ref (a 7), .ref (a 8), .ref (a 9), .ref (a 10), .ref (a 11), .ref (a 12), .ref (a 13), .ref (a 15), .ref (a 18)])), (a 7, .inl (cy 0, 32, .inl (fun _ => (-1))))]) hD hS hA [2, 1, 3, 9] rfl
    refine va_calli (va_runV (As := [.int p0]) (rest := [.ref (a 0)]) ⟨hx, hb, hml, hown, hts⟩ (c_X7_lift l dC dI cy a g _ p0 c4_) (cwV 1 hts g_X11_raise_X7_lift_184 rfl rfl rfl (by decide +kernel) ⟨Nat.le_of_ble_eq_true rfl, Nat.le_of_ble_eq_true rfl⟩) (pv_ps hC hPc hDc (ci := 7) (q0 := 0) rfl rfl) rfl rfl hl.1 rfl (lv_room (Nat.le_of_ble_eq_true rfl)) dX11_raise_43 ⟨Nat.le_of_ble_eq_true rfl, Nat.le_of_ble_eq_true rfl⟩) hS (fun q _ h => hFc q h) hFc (fun r_ u t_ H1 locs ht hvm hw hB hz1 hk1 hS => ?_)
    obtain ⟨hP, hD⟩ := va_join (wr := [(a 0, .inr (11, [.ref (a 1), .ref (a 60), .ref (a 21), .ref (a 24), .ref (a 28), .ref (a 30), .ref (a 31), .ref (a 32), .ref (a 55), .int 0, .int (-1)])), (a 2, .inl (cy 0, 32, .inl (fun _ => 0))), (a 3, .inl (cy 0, 192, .inl (fun _ => 0))), (a 4, .inl (cy 0, 32, .inl (fun _ => 0))), (a 5, .inl (cy 0, 32, .inl (fun _ => 0))), (a 6, .inl (cy 0, 32, .inl (fun _ => 0))), (a 8, .inl (cy 0, 32, .inl (fun _ => 0))), (a 9, .inl (cy 0, 192, .inl (fun _ => (-1)))), (a 10, .inl (cy 0, 128, .inl (fun _ => (-1)))), (a 11, .inl (cy 0, 32, .inl (fun _ => 0))), (a 12, .inl (cy 0, 192, .inl (fun _ => 0))), (a 13, .inr (6, [.ref (a 14), .int 0, .int 0, .int 0])), (a 14, .inl (cy 0, 40, .inl (fun _ => 0))), (a 15, .inr (2, [.ref (a 16), .ref (a 17), .int 0, .int 0])), (a 16, .inl (cy 0, 16, .inl (fun _ => 0))), (a 17, .inl (cy 0, 16, .inl (fun _ => 0))), (a 18, .inr (2, [.ref (a 19), .ref (a 20), .int 0, .int 0])), (a 19, .inl (cy 0, 32, .inl (fun _ => 0))), (a 20, .inl (cy 0, 32, .inl (fun _ => 0)))]) (w1 := []) hP hD [2, 1, 3, 9] [0, 4, 5, 6, 7, 8, 10, 11, 12, 13, 14, 15, 16, 17, 18, 19, 20, 21, 22] rfl rfl (by decide) (by decide) hk1 hFc va_P0 va_D0
    generalize H1 = H at hP hS ⊢
    have hP : va_P (dC, dI) vwCl ([(a 0, .inr (11, [.ref (a 1), .ref (a 60), .ref (a 21), .ref (a 24), .ref (a 28), .ref (a 30), .ref (a 31), .ref (a 32), .ref (a 55), .int 0, .int (-1)])), (a 2, .inl (cy 0, 32, .inl (fun _ => 0))), (a 3, .inl (cy 0, 192, .inl (fun _ => 0))), (a 4, .inl (cy 0, 32, .inl (fun _ => 0))), (a 5, .inl (cy 0, 32, .inl (fun _ => 0))), (a 6, .inl (cy 0, 32, .inl (fun _ => 0))), (a 8, .inl (cy 0, 32, .inl (fun _ => 0))), (a 9, .inl (cy 0, 192, .inl (fun _ => (-1)))), (a 10, .inl (cy 0, 128, .inl (fun _ => (-1)))), (a 11, .inl (cy 0, 32, .inl (fun _ => 0))), (a 12, .inl (cy 0, 192, .inl (fun _ => 0))), (a 13, .inr (6, [.ref (a 14), .int 0, .int 0, .int 0])), (a 14, .inl (cy 0, 40, .inl (fun _ => 0))), (a 15, .inr (2, [.ref (a 16), .ref (a 17), .int 0, .int 0])), (a 16, .inl (cy 0, 16, .inl (fun _ => 0))), (a 17, .inl (cy 0, 16, .inl (fun _ => 0))), (a 18, .inr (2, [.ref (a 19), .ref (a 20), .int 0, .int 0])), (a 19, .inl (cy 0, 32, .inl (fun _ => 0))), (a 20, .inl (cy 0, 32, .inl (fun _ => 0)))]) H := hP
    have hD : va_D A ([(a 0, .inr (11, [.ref (a 1), .ref (a 60), .ref (a 21), .ref (a 24), .ref (a 28), .ref (a 30), .ref (a 31), .ref (a 32), .ref (a 55), .int 0, .int (-1)])), (a 2, .inl (cy 0, 32, .inl (fun _ => 0))), (a 3, .inl (cy 0, 192, .inl (fun _ => 0))), (a 4, .inl (cy 0, 32, .inl (fun _ => 0))), (a 5, .inl (cy 0, 32, .inl (fun _ => 0))), (a 6, .inl (cy 0, 32, .inl (fun _ => 0))), (a 8, .inl (cy 0, 32, .inl (fun _ => 0))), (a 9, .inl (cy 0, 192, .inl (fun _ => (-1)))), (a 10, .inl (cy 0, 128, .inl (fun _ => (-1)))), (a 11, .inl (cy 0, 32, .inl (fun _ => 0))), (a 12, .inl (cy 0, 192, .inl (fun _ => 0))), (a 13, .inr (6, [.ref (a 14), .int 0, .int 0, .int 0])), (a 14, .inl (cy 0, 40, .inl (fun _ => 0))), (a 15, .inr (2, [.ref (a 16), .ref (a 17), .int 0, .int 0])), (a 16, .inl (cy 0, 16, .inl (fun _ => 0))), (a 17, .inl (cy 0, 16, .inl (fun _ => 0))), (a 18, .inr (2, [.ref (a 19), .ref (a 20), .int 0, .int 0])), (a 19, .inl (cy 0, 32, .inl (fun _ => 0))), (a 20, .inl (cy 0, 32, .inl (fun _ => 0)))]) := hD
    obtain ⟨c17_, rfl⟩ := hw
    have hPc : va_P (dC, dI) vwCl ([(a 0, .inr (11, [.ref (a 1), .ref (a 60), .ref (a 21), .ref (a 24), .ref (a 28), .ref (a 30), .ref (a 31), .ref (a 32), .ref (a 55), .int 0, .int (-1)]))]) _ := hP.sub [0] rfl
    have hDc := hD.sub (ws' := [(a 0, .inr (11, [.ref (a 1), .ref (a 60), .ref (a 21), .ref (a 24), .ref (a 28), .ref (a 30), .ref (a 31), .ref (a 32), .ref (a 55), .int 0, .int (-1)]))]) [0] (by decide) rfl
    have hFc := va_free (wc := [(a 0, .inr (11, [.ref (a 1), .ref (a 60), .ref (a 21), .ref (a 24), .ref (a 28), .ref (a 30), .ref (a 31), .ref (a 32), .ref (a 55), .int 0, .int (-1)]))]) hD hS hA [0] rfl
    refine va_calli (va_runV (As := [.int 0]) (rest := []) ⟨hx, hb, hml, hown, hts⟩ (c_X11_accept l dC dI cy a g _ 0 (-1)) (cwV 1 hts g_X11_raise_X11_accept_113 rfl rfl rfl (by decide +kernel) ⟨Nat.le_of_ble_eq_true rfl, Nat.le_of_ble_eq_true rfl⟩) (pv_ps hC hPc hDc (ci := 11) (q0 := 0) rfl rfl) rfl rfl hl.1 rfl (lv_room (Nat.le_of_ble_eq_true rfl)) dX11_raise_46 ⟨Nat.le_of_ble_eq_true rfl, Nat.le_of_ble_eq_true rfl⟩) hS (fun q _ h => hFc q h) hFc (fun r_ u t_ H1 locs ht hvm hw hB hz1 hk1 hS => ?_)
    obtain ⟨hP, hD⟩ := va_join (wr := []) (w1 := []) hP hD [0] [] rfl rfl (by decide) (by decide) hk1 hFc va_P0 va_D0
    generalize H1 = H at hP hS ⊢
    have hP : va_P (dC, dI) vwCl ([]) H := hP
    have hD : va_D A ([]) := hD
    subst hw
    exact W.iret (v := 0) hx hb hr (fun t ht hW => ⟨⟨0, (), rfl, Or.inr (Or.inr (⟨c4_, c5_, c17_, rfl⟩)), trivial⟩, hS.F ht⟩) hS.2.2 dX11_raise_49

