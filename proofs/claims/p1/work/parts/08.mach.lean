theorem dX9_init_0 : decode cX9_init 0 = .ok (.aload_n 0, 1) := by decide +kernel
theorem dX9_init_1 : decode cX9_init 1 = .ok (.invokespecial 3, 3) := by decide +kernel
theorem dX9_init_4 : decode cX9_init 4 = .ok (.aload_n 0, 1) := by decide +kernel
theorem dX9_init_5 : decode cX9_init 5 = .ok (.sipush 400, 3) := by decide +kernel
theorem dX9_init_8 : decode cX9_init 8 = .ok (.newarray .int, 2) := by decide +kernel
theorem dX9_init_10 : decode cX9_init 10 = .ok (.putfield 9, 3) := by decide +kernel
theorem dX9_init_13 : decode cX9_init 13 = .ok (.aload_n 0, 1) := by decide +kernel
theorem dX9_init_14 : decode cX9_init 14 = .ok (.iconst (-1), 1) := by decide +kernel
theorem dX9_init_15 : decode cX9_init 15 = .ok (.putfield 15, 3) := by decide +kernel
theorem dX9_init_18 : decode cX9_init 18 = .ok (.aload_n 0, 1) := by decide +kernel
theorem dX9_init_19 : decode cX9_init 19 = .ok (.bipush 33, 2) := by decide +kernel
theorem dX9_init_21 : decode cX9_init 21 = .ok (.newarray .int, 2) := by decide +kernel
theorem dX9_init_23 : decode cX9_init 23 = .ok (.putfield 19, 3) := by decide +kernel
theorem dX9_init_26 : decode cX9_init 26 = .ok (.aload_n 0, 1) := by decide +kernel
theorem dX9_init_27 : decode cX9_init 27 = .ok (.bipush 33, 2) := by decide +kernel
theorem dX9_init_29 : decode cX9_init 29 = .ok (.newarray .int, 2) := by decide +kernel
theorem dX9_init_31 : decode cX9_init 31 = .ok (.putfield 22, 3) := by decide +kernel
theorem dX9_init_34 : decode cX9_init 34 = .ok (.aload_n 0, 1) := by decide +kernel
theorem dX9_init_35 : decode cX9_init 35 = .ok (.bipush 61, 2) := by decide +kernel
theorem dX9_init_37 : decode cX9_init 37 = .ok (.newarray .int, 2) := by decide +kernel
theorem dX9_init_39 : decode cX9_init 39 = .ok (.putfield 25, 3) := by decide +kernel
theorem dX9_init_42 : decode cX9_init 42 = .ok (.aload_n 0, 1) := by decide +kernel
theorem dX9_init_43 : decode cX9_init 43 = .ok (.bipush 61, 2) := by decide +kernel
theorem dX9_init_45 : decode cX9_init 45 = .ok (.newarray .int, 2) := by decide +kernel
theorem dX9_init_47 : decode cX9_init 47 = .ok (.putfield 28, 3) := by decide +kernel
theorem dX9_init_50 : decode cX9_init 50 = .ok (.aload_n 0, 1) := by decide +kernel
theorem dX9_init_51 : decode cX9_init 51 = .ok (.aload_n 1, 1) := by decide +kernel
theorem dX9_init_52 : decode cX9_init 52 = .ok (.putfield 31, 3) := by decide +kernel
theorem dX9_init_55 : decode cX9_init 55 = .ok (.return_, 1) := by decide +kernel
def v_X9_init : List Cond := .code yX9_init cX9_init 2 none :: ([.methodLink RX9 3 objectInit, .instanceMethod objectInit, .code objectInit ⟨#[0xb1]⟩ 1 none, .arrayClass .int, .fieldLink RX9 9 "RestBoard$Table" "tape" "[I", .fieldLink RX9 15 "RestBoard$Table" "faultPlace" "I", .fieldLink RX9 19 "RestBoard$Table" "deviceEnds" "[I", .fieldLink RX9 22 "RestBoard$Table" "devices" "[I", .fieldLink RX9 25 "RestBoard$Table" "blockEnds" "[I", .fieldLink RX9 28 "RestBoard$Table" "blockKinds" "[I", .fieldLink RX9 31 "RestBoard$Table" "tree" "LRestBoard$Tree;"] ++ wsX90)
theorem m_X9_init_0 : (.methodLink RX9 3 objectInit : Cond) ∈ v_X9_init := List.mem_of_getElem? (i := 1) (by decide +kernel)
theorem m_X9_init_1 : (.instanceMethod objectInit : Cond) ∈ v_X9_init := List.mem_of_getElem? (i := 2) (by decide +kernel)
theorem m_X9_init_2 : (.code objectInit ⟨#[0xb1]⟩ 1 none : Cond) ∈ v_X9_init := List.mem_of_getElem? (i := 3) (by decide +kernel)
theorem m_X9_init_3 : (.arrayClass .int : Cond) ∈ v_X9_init := List.mem_of_getElem? (i := 4) (by decide +kernel)
theorem m_X9_init_4 : (.fieldLink RX9 9 "RestBoard$Table" "tape" "[I" : Cond) ∈ v_X9_init := List.mem_of_getElem? (i := 5) (by decide +kernel)
theorem m_X9_init_5 : (.fieldLink RX9 15 "RestBoard$Table" "faultPlace" "I" : Cond) ∈ v_X9_init := List.mem_of_getElem? (i := 6) (by decide +kernel)
theorem m_X9_init_6 : (.fieldLink RX9 19 "RestBoard$Table" "deviceEnds" "[I" : Cond) ∈ v_X9_init := List.mem_of_getElem? (i := 7) (by decide +kernel)
theorem m_X9_init_7 : (.fieldLink RX9 22 "RestBoard$Table" "devices" "[I" : Cond) ∈ v_X9_init := List.mem_of_getElem? (i := 8) (by decide +kernel)
theorem m_X9_init_8 : (.fieldLink RX9 25 "RestBoard$Table" "blockEnds" "[I" : Cond) ∈ v_X9_init := List.mem_of_getElem? (i := 9) (by decide +kernel)
theorem m_X9_init_9 : (.fieldLink RX9 28 "RestBoard$Table" "blockKinds" "[I" : Cond) ∈ v_X9_init := List.mem_of_getElem? (i := 10) (by decide +kernel)
theorem m_X9_init_10 : (.fieldLink RX9 31 "RestBoard$Table" "tree" "LRestBoard$Tree;" : Cond) ∈ v_X9_init := List.mem_of_getElem? (i := 11) (by decide +kernel)
theorem i_X9_init_X9 : ∀ w ∈ u_ws RX9 TX9 15, w ∈ v_X9_init := fun w h => List.mem_cons_of_mem _ (List.mem_append_right _ h)
set_option maxHeartbeats 4000000 in
set_option maxRecDepth 100000 in
theorem c_X9_init (l : Launch) (dC : Nat → ClassId) (dI : Nat → Nat → Nat) (cy : Nat → ClassId) (h : Nat) (tr : Nat) (sz : Nat) : Met l yX9_init v_X9_init ({ frames := 1, cells := 5, slots := 588, locals := 12 }) (va_Pc [.ref h, .ref tr] (ps dC dI cy ([(h, .inr (9, [.null, .null, .int 0, .int 0, .int 0, .int 0, .int 0, .null, .null, .int 0, .null, .null, .int 0, .int 0, .int 0]))]) sz)) (va_Qv (fun (_ : uS) => True) (fun (u : uS) (t : State) => va_P (dC, dI) vwCl ([(h, .inr (9, [.ref tr, .ref (u.1 0), .int 0, .int 0, .int 0, .int (-1), .int 0, .ref (u.1 1), .ref (u.1 2), .int 0, .ref (u.1 3), .ref (u.1 4), .int 0, .int 0, .int 0])), (u.1 0, .inl (cy 0, 400, .inl (fun _ => 0))), (u.1 1, .inl (cy 0, 33, .inl (fun _ => 0))), (u.1 2, .inl (cy 0, 33, .inl (fun _ => 0)))]) t.heap ∧ va_D (va_A ([(h, .inr (9, [.null, .null, .int 0, .int 0, .int 0, .int 0, .int 0, .null, .null, .int 0, .null, .null, .int 0, .int 0, .int 0]))]) sz) ([(h, .inr (9, [.ref tr, .ref (u.1 0), .int 0, .int 0, .int 0, .int (-1), .int 0, .ref (u.1 1), .ref (u.1 2), .int 0, .ref (u.1 3), .ref (u.1 4), .int 0, .int 0, .int 0])), (u.1 0, .inl (cy 0, 400, .inl (fun _ => 0))), (u.1 1, .inl (cy 0, 33, .inl (fun _ => 0))), (u.1 2, .inl (cy 0, 33, .inl (fun _ => 0)))])) (va_A ([(h, .inr (9, [.null, .null, .int 0, .int 0, .int 0, .int 0, .int 0, .null, .null, .int 0, .null, .null, .int 0, .int 0, .int 0]))]) sz)) 5 588 (va_A ([(h, .inr (9, [.null, .null, .int 0, .int 0, .int 0, .int 0, .int 0, .null, .null, .int 0, .null, .null, .int 0, .int 0, .int 0]))]) sz) := by
  refine Met.ofW (cc := cX9_init) (maxL := 2) (ret := none) (by decide) rfl ?_
  intro p e s m args below meth c s₁ B hml hv
  obtain ⟨rfl, hsz, hP, hC, hD0⟩ := hv
  have hK := hC.1
  have hx := B.exec
  have hb := B.bytes
  have hr := B.returns
  have hts := atoms_spec (ws := v_X9_init) B.pre
  have hown : s.vm.findClass RX9 = some m.cls := findClass_of_methodNamed B.named
  have hlocks := B.notSynchronized
  have hin : meth.name = "<init>" := (name_of_methodNamed B.named B.method).1
  subst hsz
  have hD := hD0.self (sz := s.heap.size)
  generalize hAe : va_A ([(h, .inr (9, [.null, .null, .int 0, .int 0, .int 0, .int 0, .int 0, .null, .null, .int 0, .null, .null, .int 0, .int 0, .int 0]))]) s.heap.size = A at hD ⊢
  have hA : ∀ q : Nat, s.heap.size ≤ q → A q := fun q h => by rw [← hAe]; exact Or.inr h
  have hS : va_S A s.heap s.heap [] := va_S.rf
  have hl := lv_entry ([.ref h, .ref tr]) (n := 2) (Nat.le_of_ble_eq_true rfl)
  rw [lg_entry_eq]
  generalize (lg_sl ([.ref h, .ref tr]) ++ List.replicate (2 - (lg_sl ([.ref h, .ref tr])).length) Slot.unset).toArray = ls at hl ⊢
  have hl : lv_has ls 2 [(0, .ref h), (1, .ref tr)] := hl
  refine lv_aload_n hx hb dX9_init_0 rfl (lv_at hl 0 rfl) ?_
  refine W.objInit hx hb hown (hts _ m_X9_init_0) (hts _ m_X9_init_1) (hts _ m_X9_init_2) rfl (by rw [hml]; exact hl.1) rfl dX9_init_1 (Nat.le_of_ble_eq_true rfl) (Nat.le_of_ble_eq_true rfl) ?_
  refine W.eq (g2 := F0 m 4 ls []) rfl ?_
  refine lv_aload_n hx hb dX9_init_4 rfl (lv_at hl 0 rfl) ?_
  refine lv_sipush (v := 400) hx hb dX9_init_5 (by decide) ?_
  refine va_newa (atype := .int) (N' := 400) (a0 := (400, .inl (fun _ => 0))) hx hb (hts _ m_X9_init_3) rfl hK hP hD hS hA (fun _ => rfl) (by decide) (by decide) (by decide) (Nat.le_of_ble_eq_true rfl) (Nat.le_of_ble_eq_true rfl) dX9_init_8 (fun q1_ cA_ H hKn hP hD hS => ?_)
  obtain rfl := va_K.oneI hKn
  have hP : va_P (dC, dI) vwCl [(h, .inr (9, [.null, .null, .int 0, .int 0, .int 0, .int 0, .int 0, .null, .null, .int 0, .null, .null, .int 0, .int 0, .int 0])), (q1_, .inl (cy 0, 400, .inl (fun _ => 0)))] H := hP
  have hD : va_D A [(h, .inr (9, [.null, .null, .int 0, .int 0, .int 0, .int 0, .int 0, .null, .null, .int 0, .null, .null, .int 0, .int 0, .int 0])), (q1_, .inl (cy 0, 400, .inl (fun _ => 0)))] := hD
  refine va_putF (D := (dC, dI)) (ci := 9) (v := .ref q1_) (ty := .array .int) (C := RX9) (T := TX9) (N := 15) hx hb hts i_X9_init_X9 tyX9 tyX9_ok nmX9 hown hK hP hD hS 0 rfl rfl 1 (by decide) (hts _ m_X9_init_4) (fun _ h9 => h9) rfl hin rfl (by decide +kernel) rfl rfl (Nat.le_of_ble_eq_true rfl) dX9_init_10 (fun H locs hP hD hS => ?_)
  have hP : va_P (dC, dI) vwCl [(h, .inr (9, [.null, .ref q1_, .int 0, .int 0, .int 0, .int 0, .int 0, .null, .null, .int 0, .null, .null, .int 0, .int 0, .int 0])), (q1_, .inl (cy 0, 400, .inl (fun _ => 0)))] H := hP
  have hD : va_D A [(h, .inr (9, [.null, .ref q1_, .int 0, .int 0, .int 0, .int 0, .int 0, .null, .null, .int 0, .null, .null, .int 0, .int 0, .int 0])), (q1_, .inl (cy 0, 400, .inl (fun _ => 0)))] := hD
  refine lv_aload_n hx hb dX9_init_13 rfl (lv_at hl 0 rfl) ?_
  refine lv_iconst (v := (-1)) hx hb dX9_init_14 (by decide) ?_
  refine va_put (D := (dC, dI)) (ci := 9) (v := .int (-1)) (ty := .int) (C := RX9) (T := TX9) (N := 15) hx hb hts i_X9_init_X9 tyX9 tyX9_ok nmX9 hown hK hP hD hS 0 rfl rfl 5 (by decide) (hts _ m_X9_init_5) (fun _ h9 => h9) rfl (by decide +kernel) rfl rfl (Nat.le_of_ble_eq_true rfl) dX9_init_15 (fun H locs hP hD hS => ?_)
  have hP : va_P (dC, dI) vwCl [(h, .inr (9, [.null, .ref q1_, .int 0, .int 0, .int 0, .int (-1), .int 0, .null, .null, .int 0, .null, .null, .int 0, .int 0, .int 0])), (q1_, .inl (cy 0, 400, .inl (fun _ => 0)))] H := hP
  have hD : va_D A [(h, .inr (9, [.null, .ref q1_, .int 0, .int 0, .int 0, .int (-1), .int 0, .null, .null, .int 0, .null, .null, .int 0, .int 0, .int 0])), (q1_, .inl (cy 0, 400, .inl (fun _ => 0)))] := hD
  refine lv_aload_n hx hb dX9_init_18 rfl (lv_at hl 0 rfl) ?_
  refine lv_bipush (v := 33) hx hb dX9_init_19 (by decide) ?_
  refine va_newa (atype := .int) (N' := 33) (a0 := (33, .inl (fun _ => 0))) hx hb (hts _ m_X9_init_3) rfl hK hP hD hS hA (fun _ => rfl) (by decide) (by decide) (by decide) (Nat.le_of_ble_eq_true rfl) (Nat.le_of_ble_eq_true rfl) dX9_init_21 (fun q2_ cA_ H hKn hP hD hS => ?_)
  obtain rfl := va_K.oneI hKn
  have hP : va_P (dC, dI) vwCl [(h, .inr (9, [.null, .ref q1_, .int 0, .int 0, .int 0, .int (-1), .int 0, .null, .null, .int 0, .null, .null, .int 0, .int 0, .int 0])), (q1_, .inl (cy 0, 400, .inl (fun _ => 0))), (q2_, .inl (cy 0, 33, .inl (fun _ => 0)))] H := hP
  have hD : va_D A [(h, .inr (9, [.null, .ref q1_, .int 0, .int 0, .int 0, .int (-1), .int 0, .null, .null, .int 0, .null, .null, .int 0, .int 0, .int 0])), (q1_, .inl (cy 0, 400, .inl (fun _ => 0))), (q2_, .inl (cy 0, 33, .inl (fun _ => 0)))] := hD
  refine va_putF (D := (dC, dI)) (ci := 9) (v := .ref q2_) (ty := .array .int) (C := RX9) (T := TX9) (N := 15) hx hb hts i_X9_init_X9 tyX9 tyX9_ok nmX9 hown hK hP hD hS 0 rfl rfl 7 (by decide) (hts _ m_X9_init_6) (fun _ h9 => h9) rfl hin rfl (by decide +kernel) rfl rfl (Nat.le_of_ble_eq_true rfl) dX9_init_23 (fun H locs hP hD hS => ?_)
  have hP : va_P (dC, dI) vwCl [(h, .inr (9, [.null, .ref q1_, .int 0, .int 0, .int 0, .int (-1), .int 0, .ref q2_, .null, .int 0, .null, .null, .int 0, .int 0, .int 0])), (q1_, .inl (cy 0, 400, .inl (fun _ => 0))), (q2_, .inl (cy 0, 33, .inl (fun _ => 0)))] H := hP
  have hD : va_D A [(h, .inr (9, [.null, .ref q1_, .int 0, .int 0, .int 0, .int (-1), .int 0, .ref q2_, .null, .int 0, .null, .null, .int 0, .int 0, .int 0])), (q1_, .inl (cy 0, 400, .inl (fun _ => 0))), (q2_, .inl (cy 0, 33, .inl (fun _ => 0)))] := hD
  refine lv_aload_n hx hb dX9_init_26 rfl (lv_at hl 0 rfl) ?_
  refine lv_bipush (v := 33) hx hb dX9_init_27 (by decide) ?_
  refine va_newa (atype := .int) (N' := 33) (a0 := (33, .inl (fun _ => 0))) hx hb (hts _ m_X9_init_3) rfl hK hP hD hS hA (fun _ => rfl) (by decide) (by decide) (by decide) (Nat.le_of_ble_eq_true rfl) (Nat.le_of_ble_eq_true rfl) dX9_init_29 (fun q3_ cA_ H hKn hP hD hS => ?_)
  obtain rfl := va_K.oneI hKn
  have hP : va_P (dC, dI) vwCl [(h, .inr (9, [.null, .ref q1_, .int 0, .int 0, .int 0, .int (-1), .int 0, .ref q2_, .null, .int 0, .null, .null, .int 0, .int 0, .int 0])), (q1_, .inl (cy 0, 400, .inl (fun _ => 0))), (q2_, .inl (cy 0, 33, .inl (fun _ => 0))), (q3_, .inl (cy 0, 33, .inl (fun _ => 0)))] H := hP
  have hD : va_D A [(h, .inr (9, [.null, .ref q1_, .int 0, .int 0, .int 0, .int (-1), .int 0, .ref q2_, .null, .int 0, .null, .null, .int 0, .int 0, .int 0])), (q1_, .inl (cy 0, 400, .inl (fun _ => 0))), (q2_, .inl (cy 0, 33, .inl (fun _ => 0))), (q3_, .inl (cy 0, 33, .inl (fun _ => 0)))] := hD
  refine va_putF (D := (dC, dI)) (ci := 9) (v := .ref q3_) (ty := .array .int) (C := RX9) (T := TX9) (N := 15) hx hb hts i_X9_init_X9 tyX9 tyX9_ok nmX9 hown hK hP hD hS 0 rfl rfl 8 (by decide) (hts _ m_X9_init_7) (fun _ h9 => h9) rfl hin rfl (by decide +kernel) rfl rfl (Nat.le_of_ble_eq_true rfl) dX9_init_31 (fun H locs hP hD hS => ?_)
  have hP : va_P (dC, dI) vwCl [(h, .inr (9, [.null, .ref q1_, .int 0, .int 0, .int 0, .int (-1), .int 0, .ref q2_, .ref q3_, .int 0, .null, .null, .int 0, .int 0, .int 0])), (q1_, .inl (cy 0, 400, .inl (fun _ => 0))), (q2_, .inl (cy 0, 33, .inl (fun _ => 0))), (q3_, .inl (cy 0, 33, .inl (fun _ => 0)))] H := hP
  have hD : va_D A [(h, .inr (9, [.null, .ref q1_, .int 0, .int 0, .int 0, .int (-1), .int 0, .ref q2_, .ref q3_, .int 0, .null, .null, .int 0, .int 0, .int 0])), (q1_, .inl (cy 0, 400, .inl (fun _ => 0))), (q2_, .inl (cy 0, 33, .inl (fun _ => 0))), (q3_, .inl (cy 0, 33, .inl (fun _ => 0)))] := hD
  refine lv_aload_n hx hb dX9_init_34 rfl (lv_at hl 0 rfl) ?_
  refine lv_bipush (v := 61) hx hb dX9_init_35 (by decide) ?_
  refine va_newa (atype := .int) (N' := 61) (a0 := (61, .inl (fun _ => 0))) hx hb (hts _ m_X9_init_3) rfl hK hP hD hS hA (fun _ => rfl) (by decide) (by decide) (by decide) (Nat.le_of_ble_eq_true rfl) (Nat.le_of_ble_eq_true rfl) dX9_init_37 (fun q4_ cA_ H hKn hP hD hS => ?_)
  obtain rfl := va_K.oneI hKn
  have hP : va_P (dC, dI) vwCl [(h, .inr (9, [.null, .ref q1_, .int 0, .int 0, .int 0, .int (-1), .int 0, .ref q2_, .ref q3_, .int 0, .null, .null, .int 0, .int 0, .int 0])), (q1_, .inl (cy 0, 400, .inl (fun _ => 0))), (q2_, .inl (cy 0, 33, .inl (fun _ => 0))), (q3_, .inl (cy 0, 33, .inl (fun _ => 0))), (q4_, .inl (cy 0, 61, .inl (fun _ => 0)))] H := hP
  have hD : va_D A [(h, .inr (9, [.null, .ref q1_, .int 0, .int 0, .int 0, .int (-1), .int 0, .ref q2_, .ref q3_, .int 0, .null, .null, .int 0, .int 0, .int 0])), (q1_, .inl (cy 0, 400, .inl (fun _ => 0))), (q2_, .inl (cy 0, 33, .inl (fun _ => 0))), (q3_, .inl (cy 0, 33, .inl (fun _ => 0))), (q4_, .inl (cy 0, 61, .inl (fun _ => 0)))] := hD
  refine va_putF (D := (dC, dI)) (ci := 9) (v := .ref q4_) (ty := .array .int) (C := RX9) (T := TX9) (N := 15) hx hb hts i_X9_init_X9 tyX9 tyX9_ok nmX9 hown hK hP hD hS 0 rfl rfl 10 (by decide) (hts _ m_X9_init_8) (fun _ h9 => h9) rfl hin rfl (by decide +kernel) rfl rfl (Nat.le_of_ble_eq_true rfl) dX9_init_39 (fun H locs hP hD hS => ?_)
  have hP : va_P (dC, dI) vwCl [(h, .inr (9, [.null, .ref q1_, .int 0, .int 0, .int 0, .int (-1), .int 0, .ref q2_, .ref q3_, .int 0, .ref q4_, .null, .int 0, .int 0, .int 0])), (q1_, .inl (cy 0, 400, .inl (fun _ => 0))), (q2_, .inl (cy 0, 33, .inl (fun _ => 0))), (q3_, .inl (cy 0, 33, .inl (fun _ => 0))), (q4_, .inl (cy 0, 61, .inl (fun _ => 0)))] H := hP
  have hD : va_D A [(h, .inr (9, [.null, .ref q1_, .int 0, .int 0, .int 0, .int (-1), .int 0, .ref q2_, .ref q3_, .int 0, .ref q4_, .null, .int 0, .int 0, .int 0])), (q1_, .inl (cy 0, 400, .inl (fun _ => 0))), (q2_, .inl (cy 0, 33, .inl (fun _ => 0))), (q3_, .inl (cy 0, 33, .inl (fun _ => 0))), (q4_, .inl (cy 0, 61, .inl (fun _ => 0)))] := hD
  refine lv_aload_n hx hb dX9_init_42 rfl (lv_at hl 0 rfl) ?_
  refine lv_bipush (v := 61) hx hb dX9_init_43 (by decide) ?_
  refine va_newa (atype := .int) (N' := 61) (a0 := (61, .inl (fun _ => 0))) hx hb (hts _ m_X9_init_3) rfl hK hP hD hS hA (fun _ => rfl) (by decide) (by decide) (by decide) (Nat.le_of_ble_eq_true rfl) (Nat.le_of_ble_eq_true rfl) dX9_init_45 (fun q5_ cA_ H hKn hP hD hS => ?_)
  obtain rfl := va_K.oneI hKn
  have hP : va_P (dC, dI) vwCl [(h, .inr (9, [.null, .ref q1_, .int 0, .int 0, .int 0, .int (-1), .int 0, .ref q2_, .ref q3_, .int 0, .ref q4_, .null, .int 0, .int 0, .int 0])), (q1_, .inl (cy 0, 400, .inl (fun _ => 0))), (q2_, .inl (cy 0, 33, .inl (fun _ => 0))), (q3_, .inl (cy 0, 33, .inl (fun _ => 0))), (q4_, .inl (cy 0, 61, .inl (fun _ => 0))), (q5_, .inl (cy 0, 61, .inl (fun _ => 0)))] H := hP
  have hD : va_D A [(h, .inr (9, [.null, .ref q1_, .int 0, .int 0, .int 0, .int (-1), .int 0, .ref q2_, .ref q3_, .int 0, .ref q4_, .null, .int 0, .int 0, .int 0])), (q1_, .inl (cy 0, 400, .inl (fun _ => 0))), (q2_, .inl (cy 0, 33, .inl (fun _ => 0))), (q3_, .inl (cy 0, 33, .inl (fun _ => 0))), (q4_, .inl (cy 0, 61, .inl (fun _ => 0))), (q5_, .inl (cy 0, 61, .inl (fun _ => 0)))] := hD
  refine va_putF (D := (dC, dI)) (ci := 9) (v := .ref q5_) (ty := .array .int) (C := RX9) (T := TX9) (N := 15) hx hb hts i_X9_init_X9 tyX9 tyX9_ok nmX9 hown hK hP hD hS 0 rfl rfl 11 (by decide) (hts _ m_X9_init_9) (fun _ h9 => h9) rfl hin rfl (by decide +kernel) rfl rfl (Nat.le_of_ble_eq_true rfl) dX9_init_47 (fun H locs hP hD hS => ?_)
  have hP : va_P (dC, dI) vwCl [(h, .inr (9, [.null, .ref q1_, .int 0, .int 0, .int 0, .int (-1), .int 0, .ref q2_, .ref q3_, .int 0, .ref q4_, .ref q5_, .int 0, .int 0, .int 0])), (q1_, .inl (cy 0, 400, .inl (fun _ => 0))), (q2_, .inl (cy 0, 33, .inl (fun _ => 0))), (q3_, .inl (cy 0, 33, .inl (fun _ => 0))), (q4_, .inl (cy 0, 61, .inl (fun _ => 0))), (q5_, .inl (cy 0, 61, .inl (fun _ => 0)))] H := hP
  have hD : va_D A [(h, .inr (9, [.null, .ref q1_, .int 0, .int 0, .int 0, .int (-1), .int 0, .ref q2_, .ref q3_, .int 0, .ref q4_, .ref q5_, .int 0, .int 0, .int 0])), (q1_, .inl (cy 0, 400, .inl (fun _ => 0))), (q2_, .inl (cy 0, 33, .inl (fun _ => 0))), (q3_, .inl (cy 0, 33, .inl (fun _ => 0))), (q4_, .inl (cy 0, 61, .inl (fun _ => 0))), (q5_, .inl (cy 0, 61, .inl (fun _ => 0)))] := hD
  refine lv_aload_n hx hb dX9_init_50 rfl (lv_at hl 0 rfl) ?_
  refine lv_aload_n hx hb dX9_init_51 rfl (lv_at hl 1 rfl) ?_
  refine va_putF (D := (dC, dI)) (ci := 9) (v := .ref tr) (ty := .object "RestBoard$Tree") (C := RX9) (T := TX9) (N := 15) hx hb hts i_X9_init_X9 tyX9 tyX9_ok nmX9 hown hK hP hD hS 0 rfl rfl 0 (by decide) (hts _ m_X9_init_10) (fun _ h9 => h9) rfl hin rfl (by decide +kernel) rfl rfl (Nat.le_of_ble_eq_true rfl) dX9_init_52 (fun H locs hP hD hS => ?_)
  have hP : va_P (dC, dI) vwCl [(h, .inr (9, [.ref tr, .ref q1_, .int 0, .int 0, .int 0, .int (-1), .int 0, .ref q2_, .ref q3_, .int 0, .ref q4_, .ref q5_, .int 0, .int 0, .int 0])), (q1_, .inl (cy 0, 400, .inl (fun _ => 0))), (q2_, .inl (cy 0, 33, .inl (fun _ => 0))), (q3_, .inl (cy 0, 33, .inl (fun _ => 0))), (q4_, .inl (cy 0, 61, .inl (fun _ => 0))), (q5_, .inl (cy 0, 61, .inl (fun _ => 0)))] H := hP
  have hD : va_D A [(h, .inr (9, [.ref tr, .ref q1_, .int 0, .int 0, .int 0, .int (-1), .int 0, .ref q2_, .ref q3_, .int 0, .ref q4_, .ref q5_, .int 0, .int 0, .int 0])), (q1_, .inl (cy 0, 400, .inl (fun _ => 0))), (q2_, .inl (cy 0, 33, .inl (fun _ => 0))), (q3_, .inl (cy 0, 33, .inl (fun _ => 0))), (q4_, .inl (cy 0, 61, .inl (fun _ => 0))), (q5_, .inl (cy 0, 61, .inl (fun _ => 0)))] := hD
  have hP9 := hP.sub (ws' := [(h, .inr (9, [.ref tr, .ref q1_, .int 0, .int 0, .int 0, .int (-1), .int 0, .ref q2_, .ref q3_, .int 0, .ref q4_, .ref q5_, .int 0, .int 0, .int 0])), (q1_, .inl (cy 0, 400, .inl (fun _ => 0))), (q2_, .inl (cy 0, 33, .inl (fun _ => 0))), (q3_, .inl (cy 0, 33, .inl (fun _ => 0)))]) [0, 1, 2, 3] rfl
  have hD9 := hD.sub (ws' := [(h, .inr (9, [.ref tr, .ref q1_, .int 0, .int 0, .int 0, .int (-1), .int 0, .ref q2_, .ref q3_, .int 0, .ref q4_, .ref q5_, .int 0, .int 0, .int 0])), (q1_, .inl (cy 0, 400, .inl (fun _ => 0))), (q2_, .inl (cy 0, 33, .inl (fun _ => 0))), (q3_, .inl (cy 0, 33, .inl (fun _ => 0)))]) [0, 1, 2, 3] (by decide) rfl
  exact W.vret hx hb hr (fun t ht hW => ⟨⟨((fun k => [q1_, q2_, q3_, q4_, q5_].getD k 0, fun k => [].getD k (fun _ => 0), fun k => [].getD k (fun _ => none)) : uS), rfl, trivial, (by rw [ht]; exact hP9), hD9⟩, hS.F ht⟩) hS.2.2 dX9_init_55

theorem dX0_init_0 : decode cX0_init 0 = .ok (.aload_n 0, 1) := by decide +kernel
theorem dX0_init_1 : decode cX0_init 1 = .ok (.invokespecial 3, 3) := by decide +kernel
theorem dX0_init_4 : decode cX0_init 4 = .ok (.aload_n 0, 1) := by decide +kernel
theorem dX0_init_5 : decode cX0_init 5 = .ok (.bipush 61, 2) := by decide +kernel
theorem dX0_init_7 : decode cX0_init 7 = .ok (.newarray .int, 2) := by decide +kernel
theorem dX0_init_9 : decode cX0_init 9 = .ok (.putfield 9, 3) := by decide +kernel
theorem dX0_init_12 : decode cX0_init 12 = .ok (.aload_n 0, 1) := by decide +kernel
theorem dX0_init_13 : decode cX0_init 13 = .ok (.bipush 61, 2) := by decide +kernel
theorem dX0_init_15 : decode cX0_init 15 = .ok (.newarray .int, 2) := by decide +kernel
theorem dX0_init_17 : decode cX0_init 17 = .ok (.putfield 15, 3) := by decide +kernel
theorem dX0_init_20 : decode cX0_init 20 = .ok (.aload_n 0, 1) := by decide +kernel
theorem dX0_init_21 : decode cX0_init 21 = .ok (.iconst 4, 1) := by decide +kernel
theorem dX0_init_22 : decode cX0_init 22 = .ok (.newarray .int, 2) := by decide +kernel
theorem dX0_init_24 : decode cX0_init 24 = .ok (.putfield 18, 3) := by decide +kernel
theorem dX0_init_27 : decode cX0_init 27 = .ok (.aload_n 0, 1) := by decide +kernel
theorem dX0_init_28 : decode cX0_init 28 = .ok (.iconst 4, 1) := by decide +kernel
theorem dX0_init_29 : decode cX0_init 29 = .ok (.newarray .int, 2) := by decide +kernel
theorem dX0_init_31 : decode cX0_init 31 = .ok (.putfield 21, 3) := by decide +kernel
theorem dX0_init_34 : decode cX0_init 34 = .ok (.aload_n 0, 1) := by decide +kernel
theorem dX0_init_35 : decode cX0_init 35 = .ok (.bipush 32, 2) := by decide +kernel
theorem dX0_init_37 : decode cX0_init 37 = .ok (.newarray .int, 2) := by decide +kernel
theorem dX0_init_39 : decode cX0_init 39 = .ok (.putfield 24, 3) := by decide +kernel
theorem dX0_init_42 : decode cX0_init 42 = .ok (.aload_n 0, 1) := by decide +kernel
theorem dX0_init_43 : decode cX0_init 43 = .ok (.aload_n 1, 1) := by decide +kernel
theorem dX0_init_44 : decode cX0_init 44 = .ok (.putfield 27, 3) := by decide +kernel
theorem dX0_init_47 : decode cX0_init 47 = .ok (.return_, 1) := by decide +kernel
def v_X0_init : List Cond := .code yX0_init cX0_init 2 none :: ([.methodLink RX0 3 objectInit, .instanceMethod objectInit, .code objectInit ⟨#[0xb1]⟩ 1 none, .arrayClass .int, .fieldLink RX0 9 "RestBoard$Frame" "ends" "[I", .fieldLink RX0 15 "RestBoard$Frame" "loops" "[I", .fieldLink RX0 18 "RestBoard$Frame" "locals" "[I", .fieldLink RX0 21 "RestBoard$Frame" "args" "[I", .fieldLink RX0 24 "RestBoard$Frame" "held" "[I", .fieldLink RX0 27 "RestBoard$Frame" "told" "LRestBoard$Node;"] ++ wsX00)
theorem m_X0_init_0 : (.methodLink RX0 3 objectInit : Cond) ∈ v_X0_init := List.mem_of_getElem? (i := 1) (by decide +kernel)
theorem m_X0_init_1 : (.instanceMethod objectInit : Cond) ∈ v_X0_init := List.mem_of_getElem? (i := 2) (by decide +kernel)
theorem m_X0_init_2 : (.code objectInit ⟨#[0xb1]⟩ 1 none : Cond) ∈ v_X0_init := List.mem_of_getElem? (i := 3) (by decide +kernel)
theorem m_X0_init_3 : (.arrayClass .int : Cond) ∈ v_X0_init := List.mem_of_getElem? (i := 4) (by decide +kernel)
theorem m_X0_init_4 : (.fieldLink RX0 9 "RestBoard$Frame" "ends" "[I" : Cond) ∈ v_X0_init := List.mem_of_getElem? (i := 5) (by decide +kernel)
theorem m_X0_init_5 : (.fieldLink RX0 15 "RestBoard$Frame" "loops" "[I" : Cond) ∈ v_X0_init := List.mem_of_getElem? (i := 6) (by decide +kernel)
theorem m_X0_init_6 : (.fieldLink RX0 18 "RestBoard$Frame" "locals" "[I" : Cond) ∈ v_X0_init := List.mem_of_getElem? (i := 7) (by decide +kernel)
theorem m_X0_init_7 : (.fieldLink RX0 21 "RestBoard$Frame" "args" "[I" : Cond) ∈ v_X0_init := List.mem_of_getElem? (i := 8) (by decide +kernel)
theorem m_X0_init_8 : (.fieldLink RX0 24 "RestBoard$Frame" "held" "[I" : Cond) ∈ v_X0_init := List.mem_of_getElem? (i := 9) (by decide +kernel)
theorem m_X0_init_9 : (.fieldLink RX0 27 "RestBoard$Frame" "told" "LRestBoard$Node;" : Cond) ∈ v_X0_init := List.mem_of_getElem? (i := 10) (by decide +kernel)
theorem i_X0_init_X0 : ∀ w ∈ u_ws RX0 TX0 13, w ∈ v_X0_init := fun w h => List.mem_cons_of_mem _ (List.mem_append_right _ h)
set_option maxHeartbeats 4000000 in
set_option maxRecDepth 100000 in
theorem c_X0_init (l : Launch) (dC : Nat → ClassId) (dI : Nat → Nat → Nat) (cy : Nat → ClassId) (h : Nat) (nd : Nat) (sz : Nat) : Met l yX0_init v_X0_init ({ frames := 1, cells := 5, slots := 162, locals := 12 }) (va_Pc [.ref h, .ref nd] (ps dC dI cy ([(h, .inr (0, [.int 0, .int 0, .int 0, .int 0, .int 0, .int 0, .int 0, .null, .null, .null, .null, .null, .null]))]) sz)) (va_Qv (fun (_ : uS) => True) (fun (u : uS) (t : State) => va_P (dC, dI) vwCl ([(h, .inr (0, [.int 0, .int 0, .int 0, .int 0, .int 0, .int 0, .int 0, .ref (u.1 0), .ref (u.1 1), .ref (u.1 2), .ref (u.1 3), .ref (u.1 4), .ref nd]))]) t.heap ∧ va_D (va_A ([(h, .inr (0, [.int 0, .int 0, .int 0, .int 0, .int 0, .int 0, .int 0, .null, .null, .null, .null, .null, .null]))]) sz) ([(h, .inr (0, [.int 0, .int 0, .int 0, .int 0, .int 0, .int 0, .int 0, .ref (u.1 0), .ref (u.1 1), .ref (u.1 2), .ref (u.1 3), .ref (u.1 4), .ref nd]))])) (va_A ([(h, .inr (0, [.int 0, .int 0, .int 0, .int 0, .int 0, .int 0, .int 0, .null, .null, .null, .null, .null, .null]))]) sz)) 5 162 (va_A ([(h, .inr (0, [.int 0, .int 0, .int 0, .int 0, .int 0, .int 0, .int 0, .null, .null, .null, .null, .null, .null]))]) sz) := by
  refine Met.ofW (cc := cX0_init) (maxL := 2) (ret := none) (by decide) rfl ?_
  intro p e s m args below meth c s₁ B hml hv
  obtain ⟨rfl, hsz, hP, hC, hD0⟩ := hv
  have hK := hC.1
  have hx := B.exec
  have hb := B.bytes
  have hr := B.returns
  have hts := atoms_spec (ws := v_X0_init) B.pre
  have hown : s.vm.findClass RX0 = some m.cls := findClass_of_methodNamed B.named
  have hlocks := B.notSynchronized
  have hin : meth.name = "<init>" := (name_of_methodNamed B.named B.method).1
  subst hsz
  have hD := hD0.self (sz := s.heap.size)
  generalize hAe : va_A ([(h, .inr (0, [.int 0, .int 0, .int 0, .int 0, .int 0, .int 0, .int 0, .null, .null, .null, .null, .null, .null]))]) s.heap.size = A at hD ⊢
  have hA : ∀ q : Nat, s.heap.size ≤ q → A q := fun q h => by rw [← hAe]; exact Or.inr h
  have hS : va_S A s.heap s.heap [] := va_S.rf
  have hl := lv_entry ([.ref h, .ref nd]) (n := 2) (Nat.le_of_ble_eq_true rfl)
  rw [lg_entry_eq]
  generalize (lg_sl ([.ref h, .ref nd]) ++ List.replicate (2 - (lg_sl ([.ref h, .ref nd])).length) Slot.unset).toArray = ls at hl ⊢
  have hl : lv_has ls 2 [(0, .ref h), (1, .ref nd)] := hl
  refine lv_aload_n hx hb dX0_init_0 rfl (lv_at hl 0 rfl) ?_
  refine W.objInit hx hb hown (hts _ m_X0_init_0) (hts _ m_X0_init_1) (hts _ m_X0_init_2) rfl (by rw [hml]; exact hl.1) rfl dX0_init_1 (Nat.le_of_ble_eq_true rfl) (Nat.le_of_ble_eq_true rfl) ?_
  refine W.eq (g2 := F0 m 4 ls []) rfl ?_
  refine lv_aload_n hx hb dX0_init_4 rfl (lv_at hl 0 rfl) ?_
  refine lv_bipush (v := 61) hx hb dX0_init_5 (by decide) ?_
  refine va_newa (atype := .int) (N' := 61) (a0 := (61, .inl (fun _ => 0))) hx hb (hts _ m_X0_init_3) rfl hK hP hD hS hA (fun _ => rfl) (by decide) (by decide) (by decide) (Nat.le_of_ble_eq_true rfl) (Nat.le_of_ble_eq_true rfl) dX0_init_7 (fun q1_ cA_ H hKn hP hD hS => ?_)
  obtain rfl := va_K.oneI hKn
  have hP : va_P (dC, dI) vwCl [(h, .inr (0, [.int 0, .int 0, .int 0, .int 0, .int 0, .int 0, .int 0, .null, .null, .null, .null, .null, .null])), (q1_, .inl (cy 0, 61, .inl (fun _ => 0)))] H := hP
  have hD : va_D A [(h, .inr (0, [.int 0, .int 0, .int 0, .int 0, .int 0, .int 0, .int 0, .null, .null, .null, .null, .null, .null])), (q1_, .inl (cy 0, 61, .inl (fun _ => 0)))] := hD
  refine va_putF (D := (dC, dI)) (ci := 0) (v := .ref q1_) (ty := .array .int) (C := RX0) (T := TX0) (N := 13) hx hb hts i_X0_init_X0 tyX0 tyX0_ok nmX0 hown hK hP hD hS 0 rfl rfl 7 (by decide) (hts _ m_X0_init_4) (fun _ h9 => h9) rfl hin rfl (by decide +kernel) rfl rfl (Nat.le_of_ble_eq_true rfl) dX0_init_9 (fun H locs hP hD hS => ?_)
  have hP : va_P (dC, dI) vwCl [(h, .inr (0, [.int 0, .int 0, .int 0, .int 0, .int 0, .int 0, .int 0, .ref q1_, .null, .null, .null, .null, .null])), (q1_, .inl (cy 0, 61, .inl (fun _ => 0)))] H := hP
  have hD : va_D A [(h, .inr (0, [.int 0, .int 0, .int 0, .int 0, .int 0, .int 0, .int 0, .ref q1_, .null, .null, .null, .null, .null])), (q1_, .inl (cy 0, 61, .inl (fun _ => 0)))] := hD
  refine lv_aload_n hx hb dX0_init_12 rfl (lv_at hl 0 rfl) ?_
  refine lv_bipush (v := 61) hx hb dX0_init_13 (by decide) ?_
  refine va_newa (atype := .int) (N' := 61) (a0 := (61, .inl (fun _ => 0))) hx hb (hts _ m_X0_init_3) rfl hK hP hD hS hA (fun _ => rfl) (by decide) (by decide) (by decide) (Nat.le_of_ble_eq_true rfl) (Nat.le_of_ble_eq_true rfl) dX0_init_15 (fun q2_ cA_ H hKn hP hD hS => ?_)
  obtain rfl := va_K.oneI hKn
  have hP : va_P (dC, dI) vwCl [(h, .inr (0, [.int 0, .int 0, .int 0, .int 0, .int 0, .int 0, .int 0, .ref q1_, .null, .null, .null, .null, .null])), (q1_, .inl (cy 0, 61, .inl (fun _ => 0))), (q2_, .inl (cy 0, 61, .inl (fun _ => 0)))] H := hP
  have hD : va_D A [(h, .inr (0, [.int 0, .int 0, .int 0, .int 0, .int 0, .int 0, .int 0, .ref q1_, .null, .null, .null, .null, .null])), (q1_, .inl (cy 0, 61, .inl (fun _ => 0))), (q2_, .inl (cy 0, 61, .inl (fun _ => 0)))] := hD
  refine va_putF (D := (dC, dI)) (ci := 0) (v := .ref q2_) (ty := .array .int) (C := RX0) (T := TX0) (N := 13) hx hb hts i_X0_init_X0 tyX0 tyX0_ok nmX0 hown hK hP hD hS 0 rfl rfl 8 (by decide) (hts _ m_X0_init_5) (fun _ h9 => h9) rfl hin rfl (by decide +kernel) rfl rfl (Nat.le_of_ble_eq_true rfl) dX0_init_17 (fun H locs hP hD hS => ?_)
  have hP : va_P (dC, dI) vwCl [(h, .inr (0, [.int 0, .int 0, .int 0, .int 0, .int 0, .int 0, .int 0, .ref q1_, .ref q2_, .null, .null, .null, .null])), (q1_, .inl (cy 0, 61, .inl (fun _ => 0))), (q2_, .inl (cy 0, 61, .inl (fun _ => 0)))] H := hP
  have hD : va_D A [(h, .inr (0, [.int 0, .int 0, .int 0, .int 0, .int 0, .int 0, .int 0, .ref q1_, .ref q2_, .null, .null, .null, .null])), (q1_, .inl (cy 0, 61, .inl (fun _ => 0))), (q2_, .inl (cy 0, 61, .inl (fun _ => 0)))] := hD
  refine lv_aload_n hx hb dX0_init_20 rfl (lv_at hl 0 rfl) ?_
  refine lv_iconst (v := 4) hx hb dX0_init_21 (by decide) ?_
  refine va_newa (atype := .int) (N' := 4) (a0 := (4, .inl (fun _ => 0))) hx hb (hts _ m_X0_init_3) rfl hK hP hD hS hA (fun _ => rfl) (by decide) (by decide) (by decide) (Nat.le_of_ble_eq_true rfl) (Nat.le_of_ble_eq_true rfl) dX0_init_22 (fun q3_ cA_ H hKn hP hD hS => ?_)
  obtain rfl := va_K.oneI hKn
  have hP : va_P (dC, dI) vwCl [(h, .inr (0, [.int 0, .int 0, .int 0, .int 0, .int 0, .int 0, .int 0, .ref q1_, .ref q2_, .null, .null, .null, .null])), (q1_, .inl (cy 0, 61, .inl (fun _ => 0))), (q2_, .inl (cy 0, 61, .inl (fun _ => 0))), (q3_, .inl (cy 0, 4, .inl (fun _ => 0)))] H := hP
  have hD : va_D A [(h, .inr (0, [.int 0, .int 0, .int 0, .int 0, .int 0, .int 0, .int 0, .ref q1_, .ref q2_, .null, .null, .null, .null])), (q1_, .inl (cy 0, 61, .inl (fun _ => 0))), (q2_, .inl (cy 0, 61, .inl (fun _ => 0))), (q3_, .inl (cy 0, 4, .inl (fun _ => 0)))] := hD
  refine va_putF (D := (dC, dI)) (ci := 0) (v := .ref q3_) (ty := .array .int) (C := RX0) (T := TX0) (N := 13) hx hb hts i_X0_init_X0 tyX0 tyX0_ok nmX0 hown hK hP hD hS 0 rfl rfl 9 (by decide) (hts _ m_X0_init_6) (fun _ h9 => h9) rfl hin rfl (by decide +kernel) rfl rfl (Nat.le_of_ble_eq_true rfl) dX0_init_24 (fun H locs hP hD hS => ?_)
  have hP : va_P (dC, dI) vwCl [(h, .inr (0, [.int 0, .int 0, .int 0, .int 0, .int 0, .int 0, .int 0, .ref q1_, .ref q2_, .ref q3_, .null, .null, .null])), (q1_, .inl (cy 0, 61, .inl (fun _ => 0))), (q2_, .inl (cy 0, 61, .inl (fun _ => 0))), (q3_, .inl (cy 0, 4, .inl (fun _ => 0)))] H := hP
  have hD : va_D A [(h, .inr (0, [.int 0, .int 0, .int 0, .int 0, .int 0, .int 0, .int 0, .ref q1_, .ref q2_, .ref q3_, .null, .null, .null])), (q1_, .inl (cy 0, 61, .inl (fun _ => 0))), (q2_, .inl (cy 0, 61, .inl (fun _ => 0))), (q3_, .inl (cy 0, 4, .inl (fun _ => 0)))] := hD
  refine lv_aload_n hx hb dX0_init_27 rfl (lv_at hl 0 rfl) ?_
  refine lv_iconst (v := 4) hx hb dX0_init_28 (by decide) ?_
  refine va_newa (atype := .int) (N' := 4) (a0 := (4, .inl (fun _ => 0))) hx hb (hts _ m_X0_init_3) rfl hK hP hD hS hA (fun _ => rfl) (by decide) (by decide) (by decide) (Nat.le_of_ble_eq_true rfl) (Nat.le_of_ble_eq_true rfl) dX0_init_29 (fun q4_ cA_ H hKn hP hD hS => ?_)
  obtain rfl := va_K.oneI hKn
  have hP : va_P (dC, dI) vwCl [(h, .inr (0, [.int 0, .int 0, .int 0, .int 0, .int 0, .int 0, .int 0, .ref q1_, .ref q2_, .ref q3_, .null, .null, .null])), (q1_, .inl (cy 0, 61, .inl (fun _ => 0))), (q2_, .inl (cy 0, 61, .inl (fun _ => 0))), (q3_, .inl (cy 0, 4, .inl (fun _ => 0))), (q4_, .inl (cy 0, 4, .inl (fun _ => 0)))] H := hP
  have hD : va_D A [(h, .inr (0, [.int 0, .int 0, .int 0, .int 0, .int 0, .int 0, .int 0, .ref q1_, .ref q2_, .ref q3_, .null, .null, .null])), (q1_, .inl (cy 0, 61, .inl (fun _ => 0))), (q2_, .inl (cy 0, 61, .inl (fun _ => 0))), (q3_, .inl (cy 0, 4, .inl (fun _ => 0))), (q4_, .inl (cy 0, 4, .inl (fun _ => 0)))] := hD
  refine va_putF (D := (dC, dI)) (ci := 0) (v := .ref q4_) (ty := .array .int) (C := RX0) (T := TX0) (N := 13) hx hb hts i_X0_init_X0 tyX0 tyX0_ok nmX0 hown hK hP hD hS 0 rfl rfl 10 (by decide) (hts _ m_X0_init_7) (fun _ h9 => h9) rfl hin rfl (by decide +kernel) rfl rfl (Nat.le_of_ble_eq_true rfl) dX0_init_31 (fun H locs hP hD hS => ?_)
  have hP : va_P (dC, dI) vwCl [(h, .inr (0, [.int 0, .int 0, .int 0, .int 0, .int 0, .int 0, .int 0, .ref q1_, .ref q2_, .ref q3_, .ref q4_, .null, .null])), (q1_, .inl (cy 0, 61, .inl (fun _ => 0))), (q2_, .inl (cy 0, 61, .inl (fun _ => 0))), (q3_, .inl (cy 0, 4, .inl (fun _ => 0))), (q4_, .inl (cy 0, 4, .inl (fun _ => 0)))] H := hP
  have hD : va_D A [(h, .inr (0, [.int 0, .int 0, .int 0, .int 0, .int 0, .int 0, .int 0, .ref q1_, .ref q2_, .ref q3_, .ref q4_, .null, .null])), (q1_, .inl (cy 0, 61, .inl (fun _ => 0))), (q2_, .inl (cy 0, 61, .inl (fun _ => 0))), (q3_, .inl (cy 0, 4, .inl (fun _ => 0))), (q4_, .inl (cy 0, 4, .inl (fun _ => 0)))] := hD
  refine lv_aload_n hx hb dX0_init_34 rfl (lv_at hl 0 rfl) ?_
  refine lv_bipush (v := 32) hx hb dX0_init_35 (by decide) ?_
  refine va_newa (atype := .int) (N' := 32) (a0 := (32, .inl (fun _ => 0))) hx hb (hts _ m_X0_init_3) rfl hK hP hD hS hA (fun _ => rfl) (by decide) (by decide) (by decide) (Nat.le_of_ble_eq_true rfl) (Nat.le_of_ble_eq_true rfl) dX0_init_37 (fun q5_ cA_ H hKn hP hD hS => ?_)
  obtain rfl := va_K.oneI hKn
  have hP : va_P (dC, dI) vwCl [(h, .inr (0, [.int 0, .int 0, .int 0, .int 0, .int 0, .int 0, .int 0, .ref q1_, .ref q2_, .ref q3_, .ref q4_, .null, .null])), (q1_, .inl (cy 0, 61, .inl (fun _ => 0))), (q2_, .inl (cy 0, 61, .inl (fun _ => 0))), (q3_, .inl (cy 0, 4, .inl (fun _ => 0))), (q4_, .inl (cy 0, 4, .inl (fun _ => 0))), (q5_, .inl (cy 0, 32, .inl (fun _ => 0)))] H := hP
  have hD : va_D A [(h, .inr (0, [.int 0, .int 0, .int 0, .int 0, .int 0, .int 0, .int 0, .ref q1_, .ref q2_, .ref q3_, .ref q4_, .null, .null])), (q1_, .inl (cy 0, 61, .inl (fun _ => 0))), (q2_, .inl (cy 0, 61, .inl (fun _ => 0))), (q3_, .inl (cy 0, 4, .inl (fun _ => 0))), (q4_, .inl (cy 0, 4, .inl (fun _ => 0))), (q5_, .inl (cy 0, 32, .inl (fun _ => 0)))] := hD
  refine va_putF (D := (dC, dI)) (ci := 0) (v := .ref q5_) (ty := .array .int) (C := RX0) (T := TX0) (N := 13) hx hb hts i_X0_init_X0 tyX0 tyX0_ok nmX0 hown hK hP hD hS 0 rfl rfl 11 (by decide) (hts _ m_X0_init_8) (fun _ h9 => h9) rfl hin rfl (by decide +kernel) rfl rfl (Nat.le_of_ble_eq_true rfl) dX0_init_39 (fun H locs hP hD hS => ?_)
  have hP : va_P (dC, dI) vwCl [(h, .inr (0, [.int 0, .int 0, .int 0, .int 0, .int 0, .int 0, .int 0, .ref q1_, .ref q2_, .ref q3_, .ref q4_, .ref q5_, .null])), (q1_, .inl (cy 0, 61, .inl (fun _ => 0))), (q2_, .inl (cy 0, 61, .inl (fun _ => 0))), (q3_, .inl (cy 0, 4, .inl (fun _ => 0))), (q4_, .inl (cy 0, 4, .inl (fun _ => 0))), (q5_, .inl (cy 0, 32, .inl (fun _ => 0)))] H := hP
  have hD : va_D A [(h, .inr (0, [.int 0, .int 0, .int 0, .int 0, .int 0, .int 0, .int 0, .ref q1_, .ref q2_, .ref q3_, .ref q4_, .ref q5_, .null])), (q1_, .inl (cy 0, 61, .inl (fun _ => 0))), (q2_, .inl (cy 0, 61, .inl (fun _ => 0))), (q3_, .inl (cy 0, 4, .inl (fun _ => 0))), (q4_, .inl (cy 0, 4, .inl (fun _ => 0))), (q5_, .inl (cy 0, 32, .inl (fun _ => 0)))] := hD
  refine lv_aload_n hx hb dX0_init_42 rfl (lv_at hl 0 rfl) ?_
  refine lv_aload_n hx hb dX0_init_43 rfl (lv_at hl 1 rfl) ?_
  refine va_put (D := (dC, dI)) (ci := 0) (v := .ref nd) (ty := .object "RestBoard$Node") (C := RX0) (T := TX0) (N := 13) hx hb hts i_X0_init_X0 tyX0 tyX0_ok nmX0 hown hK hP hD hS 0 rfl rfl 12 (by decide) (hts _ m_X0_init_9) (fun _ h9 => h9) rfl (by decide +kernel) rfl rfl (Nat.le_of_ble_eq_true rfl) dX0_init_44 (fun H locs hP hD hS => ?_)
  have hP : va_P (dC, dI) vwCl [(h, .inr (0, [.int 0, .int 0, .int 0, .int 0, .int 0, .int 0, .int 0, .ref q1_, .ref q2_, .ref q3_, .ref q4_, .ref q5_, .ref nd])), (q1_, .inl (cy 0, 61, .inl (fun _ => 0))), (q2_, .inl (cy 0, 61, .inl (fun _ => 0))), (q3_, .inl (cy 0, 4, .inl (fun _ => 0))), (q4_, .inl (cy 0, 4, .inl (fun _ => 0))), (q5_, .inl (cy 0, 32, .inl (fun _ => 0)))] H := hP
  have hD : va_D A [(h, .inr (0, [.int 0, .int 0, .int 0, .int 0, .int 0, .int 0, .int 0, .ref q1_, .ref q2_, .ref q3_, .ref q4_, .ref q5_, .ref nd])), (q1_, .inl (cy 0, 61, .inl (fun _ => 0))), (q2_, .inl (cy 0, 61, .inl (fun _ => 0))), (q3_, .inl (cy 0, 4, .inl (fun _ => 0))), (q4_, .inl (cy 0, 4, .inl (fun _ => 0))), (q5_, .inl (cy 0, 32, .inl (fun _ => 0)))] := hD
  have hP9 := hP.sub (ws' := [(h, .inr (0, [.int 0, .int 0, .int 0, .int 0, .int 0, .int 0, .int 0, .ref q1_, .ref q2_, .ref q3_, .ref q4_, .ref q5_, .ref nd]))]) [0] rfl
  have hD9 := hD.sub (ws' := [(h, .inr (0, [.int 0, .int 0, .int 0, .int 0, .int 0, .int 0, .int 0, .ref q1_, .ref q2_, .ref q3_, .ref q4_, .ref q5_, .ref nd]))]) [0] (by decide) rfl
  exact W.vret hx hb hr (fun t ht hW => ⟨⟨((fun k => [q1_, q2_, q3_, q4_, q5_].getD k 0, fun k => [].getD k (fun _ => 0), fun k => [].getD k (fun _ => none)) : uS), rfl, trivial, (by rw [ht]; exact hP9), hD9⟩, hS.F ht⟩) hS.2.2 dX0_init_47

theorem dX3_init_0 : decode cX3_init 0 = .ok (.aload_n 0, 1) := by decide +kernel
theorem dX3_init_1 : decode cX3_init 1 = .ok (.invokespecial 3, 3) := by decide +kernel
theorem dX3_init_4 : decode cX3_init 4 = .ok (.aload_n 0, 1) := by decide +kernel
theorem dX3_init_5 : decode cX3_init 5 = .ok (.bipush 6, 2) := by decide +kernel
theorem dX3_init_7 : decode cX3_init 7 = .ok (.anewarray 11, 3) := by decide +kernel
theorem dX3_init_10 : decode cX3_init 10 = .ok (.putfield 13, 3) := by decide +kernel
theorem dX3_init_13 : decode cX3_init 13 = .ok (.aload_n 0, 1) := by decide +kernel
theorem dX3_init_14 : decode cX3_init 14 = .ok (.bipush 15, 2) := by decide +kernel
theorem dX3_init_16 : decode cX3_init 16 = .ok (.newarray .int, 2) := by decide +kernel
theorem dX3_init_18 : decode cX3_init 18 = .ok (.putfield 17, 3) := by decide +kernel
theorem dX3_init_21 : decode cX3_init 21 = .ok (.aload_n 0, 1) := by decide +kernel
theorem dX3_init_22 : decode cX3_init 22 = .ok (.bipush 15, 2) := by decide +kernel
theorem dX3_init_24 : decode cX3_init 24 = .ok (.newarray .int, 2) := by decide +kernel
theorem dX3_init_26 : decode cX3_init 26 = .ok (.putfield 21, 3) := by decide +kernel
theorem dX3_init_29 : decode cX3_init 29 = .ok (.aload_n 0, 1) := by decide +kernel
theorem dX3_init_30 : decode cX3_init 30 = .ok (.aload_n 1, 1) := by decide +kernel
theorem dX3_init_31 : decode cX3_init 31 = .ok (.putfield 24, 3) := by decide +kernel
theorem dX3_init_34 : decode cX3_init 34 = .ok (.aload_n 0, 1) := by decide +kernel
theorem dX3_init_35 : decode cX3_init 35 = .ok (.aload_n 2, 1) := by decide +kernel
theorem dX3_init_36 : decode cX3_init 36 = .ok (.putfield 28, 3) := by decide +kernel
theorem dX3_init_39 : decode cX3_init 39 = .ok (.iconst 0, 1) := by decide +kernel
theorem dX3_init_40 : decode cX3_init 40 = .ok (.istore_n 3, 1) := by decide +kernel
theorem dX3_init_41 : decode cX3_init 41 = .ok (.iload_n 3, 1) := by decide +kernel
theorem dX3_init_42 : decode cX3_init 42 = .ok (.bipush 6, 2) := by decide +kernel
theorem dX3_init_44 : decode cX3_init 44 = .ok (.if_icmp .ge 28, 3) := by decide +kernel
theorem dX3_init_47 : decode cX3_init 47 = .ok (.aload_n 0, 1) := by decide +kernel
theorem dX3_init_48 : decode cX3_init 48 = .ok (.getfield 13, 3) := by decide +kernel
theorem dX3_init_51 : decode cX3_init 51 = .ok (.iload_n 3, 1) := by decide +kernel
theorem dX3_init_52 : decode cX3_init 52 = .ok (.new 11, 3) := by decide +kernel
theorem dX3_init_55 : decode cX3_init 55 = .ok (.dup, 1) := by decide +kernel
theorem dX3_init_56 : decode cX3_init 56 = .ok (.aload_n 1, 1) := by decide +kernel
theorem dX3_init_57 : decode cX3_init 57 = .ok (.getfield 32, 3) := by decide +kernel
theorem dX3_init_60 : decode cX3_init 60 = .ok (.iconst 0, 1) := by decide +kernel
theorem dX3_init_61 : decode cX3_init 61 = .ok (.aaload, 1) := by decide +kernel
theorem dX3_init_62 : decode cX3_init 62 = .ok (.invokespecial 38, 3) := by decide +kernel
theorem dX3_init_65 : decode cX3_init 65 = .ok (.aastore, 1) := by decide +kernel
theorem dX3_init_66 : decode cX3_init 66 = .ok (.iinc 3 1, 3) := by decide +kernel
theorem dX3_init_69 : decode cX3_init 69 = .ok (.goto (-28), 3) := by decide +kernel
theorem dX3_init_72 : decode cX3_init 72 = .ok (.return_, 1) := by decide +kernel
def v_X3_init : List Cond := .code yX3_init cX3_init 4 none :: ([.methodLink RX3 3 objectInit, .instanceMethod objectInit, .code objectInit ⟨#[0xb1]⟩ 1 none, .classLink RX3 11 RX0, .fieldLink RX3 13 "RestBoard$Machine" "frames" "[LRestBoard$Frame;", .arrayClass .int, .fieldLink RX3 17 "RestBoard$Machine" "latest" "[I", .fieldLink RX3 21 "RestBoard$Machine" "keptLatest" "[I", .fieldLink RX3 24 "RestBoard$Machine" "tree" "LRestBoard$Tree;", .fieldLink RX3 28 "RestBoard$Machine" "now" "LRestBoard$State;", .instantiable RX0 13, .initialized RX0, .fieldLink RX3 32 "RestBoard$Tree" "nodes" "[LRestBoard$Node;", .methodLink RX3 38 yX0_init, .instanceMethod yX0_init, .code yX0_init cX0_init 2 none, .methodLink RX0 3 objectInit, .fieldLink RX0 9 "RestBoard$Frame" "ends" "[I", .fieldLink RX0 15 "RestBoard$Frame" "loops" "[I", .fieldLink RX0 18 "RestBoard$Frame" "locals" "[I", .fieldLink RX0 21 "RestBoard$Frame" "args" "[I", .fieldLink RX0 24 "RestBoard$Frame" "held" "[I", .fieldLink RX0 27 "RestBoard$Frame" "told" "LRestBoard$Node;"] ++ wsX30 ++ wsX00 ++ wsX100)
theorem m_X3_init_0 : (.methodLink RX3 3 objectInit : Cond) ∈ v_X3_init := List.mem_of_getElem? (i := 1) (by decide +kernel)
theorem m_X3_init_1 : (.instanceMethod objectInit : Cond) ∈ v_X3_init := List.mem_of_getElem? (i := 2) (by decide +kernel)
theorem m_X3_init_2 : (.code objectInit ⟨#[0xb1]⟩ 1 none : Cond) ∈ v_X3_init := List.mem_of_getElem? (i := 3) (by decide +kernel)
theorem m_X3_init_3 : (.classLink RX3 11 RX0 : Cond) ∈ v_X3_init := List.mem_of_getElem? (i := 4) (by decide +kernel)
theorem m_X3_init_4 : (.fieldLink RX3 13 "RestBoard$Machine" "frames" "[LRestBoard$Frame;" : Cond) ∈ v_X3_init := List.mem_of_getElem? (i := 5) (by decide +kernel)
theorem m_X3_init_5 : (.arrayClass .int : Cond) ∈ v_X3_init := List.mem_of_getElem? (i := 6) (by decide +kernel)
theorem m_X3_init_6 : (.fieldLink RX3 17 "RestBoard$Machine" "latest" "[I" : Cond) ∈ v_X3_init := List.mem_of_getElem? (i := 7) (by decide +kernel)
theorem m_X3_init_7 : (.fieldLink RX3 21 "RestBoard$Machine" "keptLatest" "[I" : Cond) ∈ v_X3_init := List.mem_of_getElem? (i := 8) (by decide +kernel)
theorem m_X3_init_8 : (.fieldLink RX3 24 "RestBoard$Machine" "tree" "LRestBoard$Tree;" : Cond) ∈ v_X3_init := List.mem_of_getElem? (i := 9) (by decide +kernel)
theorem m_X3_init_9 : (.fieldLink RX3 28 "RestBoard$Machine" "now" "LRestBoard$State;" : Cond) ∈ v_X3_init := List.mem_of_getElem? (i := 10) (by decide +kernel)
theorem m_X3_init_10 : (.instantiable RX0 13 : Cond) ∈ v_X3_init := List.mem_of_getElem? (i := 11) (by decide +kernel)
theorem m_X3_init_11 : (.initialized RX0 : Cond) ∈ v_X3_init := List.mem_of_getElem? (i := 12) (by decide +kernel)
theorem m_X3_init_12 : (.fieldLink RX3 32 "RestBoard$Tree" "nodes" "[LRestBoard$Node;" : Cond) ∈ v_X3_init := List.mem_of_getElem? (i := 13) (by decide +kernel)
theorem m_X3_init_13 : (.methodLink RX3 38 yX0_init : Cond) ∈ v_X3_init := List.mem_of_getElem? (i := 14) (by decide +kernel)
theorem m_X3_init_14 : (.instanceMethod yX0_init : Cond) ∈ v_X3_init := List.mem_of_getElem? (i := 15) (by decide +kernel)
theorem i_X3_init_X3 : ∀ w ∈ u_ws RX3 TX3 10, w ∈ v_X3_init := fun w h => List.mem_cons_of_mem _ (List.mem_append_left _ (List.mem_append_left _ (List.mem_append_right _ h)))
theorem i_X3_init_X0 : ∀ w ∈ u_ws RX0 TX0 13, w ∈ v_X3_init := fun w h => List.mem_cons_of_mem _ (List.mem_append_left _ (List.mem_append_right _ h))
theorem i_X3_init_X10 : ∀ w ∈ u_ws RX10 TX10 2, w ∈ v_X3_init := fun w h => List.mem_cons_of_mem _ (List.mem_append_right _ h)
set_option maxRecDepth 100000 in
theorem gg_X3_init_X0_init_38 : GoodIn v_X3_init v_X0_init := goodIn_r _ [16, 17, 2, 3, 6, 18, 19, 20, 21, 22, 23, 34, 35, 36, 37, 38, 39, 40, 41, 42, 43, 44, 45, 46] (by decide +kernel) (by decide +kernel)
set_option maxRecDepth 100000 in
theorem g_X3_init_X0_init_38 : GoodIn v_X3_init v_X0_init := gg_X3_init_X0_init_38
set_option maxHeartbeats 4000000 in
set_option maxRecDepth 100000 in
theorem c_X3_init (l : Launch) (dC : Nat → ClassId) (dI : Nat → Nat → Nat) (cy : Nat → ClassId) (h : Nat) (tr : Nat) (ns : Nat) (nw : Nat) (nd : Nat) (gf : Nat → Option Nat) (sz : Nat) : Met l yX3_init v_X3_init ({ frames := 2, cells := 39, slots := 1086, locals := 33 }) (va_Pc [.ref h, .ref tr, .ref nw] (ps dC dI cy ([(h, .inr (3, [.null, .null, .null, .int 0, .int 0, .int 0, .int 0, .null, .null, .int 0])), (tr, .inr (10, [.ref ns, .ref nw])), (ns, .inl (cy 1, 32, .inr (.inr (.inr (.inr (va_up gf 0 (some nd)))))))]) sz)) (va_Qv (fun (_ : uS) => True) (fun (u : uS) (t : State) => va_P (dC, dI) vwCl ([(h, .inr (3, [.ref tr, .ref nw, .ref (u.1 0), .int 0, .int 0, .int 0, .int 0, .ref (u.1 1), .ref (u.1 2), .int 0])), (u.1 1, .inl (cy 0, 15, .inl (fun _ => 0))), (tr, .inr (10, [.ref ns, .ref nw])), (ns, .inl (cy 1, 32, .inr (.inr (.inr (.inr (va_up gf 0 (some nd)))))))]) t.heap ∧ va_D (va_A ([(h, .inr (3, [.null, .null, .null, .int 0, .int 0, .int 0, .int 0, .null, .null, .int 0])), (tr, .inr (10, [.ref ns, .ref nw])), (ns, .inl (cy 1, 32, .inr (.inr (.inr (.inr (va_up gf 0 (some nd)))))))]) sz) ([(h, .inr (3, [.ref tr, .ref nw, .ref (u.1 0), .int 0, .int 0, .int 0, .int 0, .ref (u.1 1), .ref (u.1 2), .int 0])), (u.1 1, .inl (cy 0, 15, .inl (fun _ => 0))), (tr, .inr (10, [.ref ns, .ref nw])), (ns, .inl (cy 1, 32, .inr (.inr (.inr (.inr (va_up gf 0 (some nd)))))))])) (va_A ([(h, .inr (3, [.null, .null, .null, .int 0, .int 0, .int 0, .int 0, .null, .null, .int 0])), (tr, .inr (10, [.ref ns, .ref nw])), (ns, .inl (cy 1, 32, .inr (.inr (.inr (.inr (va_up gf 0 (some nd)))))))]) sz)) 39 1086 (va_A ([(h, .inr (3, [.null, .null, .null, .int 0, .int 0, .int 0, .int 0, .null, .null, .int 0])), (tr, .inr (10, [.ref ns, .ref nw])), (ns, .inl (cy 1, 32, .inr (.inr (.inr (.inr (va_up gf 0 (some nd)))))))]) sz) := by
  refine Met.ofW (cc := cX3_init) (maxL := 4) (ret := none) (by decide) rfl ?_
  intro p e s m args below meth c s₁ B hml hv
  obtain ⟨rfl, hsz, hP, hC, hD0⟩ := hv
  have hK := hC.1
  have hx := B.exec
  have hb := B.bytes
  have hr := B.returns
  have hts := atoms_spec (ws := v_X3_init) B.pre
  have hown : s.vm.findClass RX3 = some m.cls := findClass_of_methodNamed B.named
  have hlocks := B.notSynchronized
  have hin : meth.name = "<init>" := (name_of_methodNamed B.named B.method).1
  subst hsz
  have hD := hD0.self (sz := s.heap.size)
  generalize hAe : va_A ([(h, .inr (3, [.null, .null, .null, .int 0, .int 0, .int 0, .int 0, .null, .null, .int 0])), (tr, .inr (10, [.ref ns, .ref nw])), (ns, .inl (cy 1, 32, .inr (.inr (.inr (.inr (va_up gf 0 (some nd)))))))]) s.heap.size = A at hD ⊢
  have hA : ∀ q : Nat, s.heap.size ≤ q → A q := fun q h => by rw [← hAe]; exact Or.inr h
  have hS : va_S A s.heap s.heap [] := va_S.rf
  have hl := lv_entry ([.ref h, .ref tr, .ref nw]) (n := 4) (Nat.le_of_ble_eq_true rfl)
  rw [lg_entry_eq]
  generalize (lg_sl ([.ref h, .ref tr, .ref nw]) ++ List.replicate (4 - (lg_sl ([.ref h, .ref tr, .ref nw])).length) Slot.unset).toArray = ls at hl ⊢
  have hl : lv_has ls 4 [(0, .ref h), (1, .ref tr), (2, .ref nw)] := hl
  refine lv_aload_n hx hb dX3_init_0 rfl (lv_at hl 0 rfl) ?_
  refine W.objInit hx hb hown (hts _ m_X3_init_0) (hts _ m_X3_init_1) (hts _ m_X3_init_2) rfl (by rw [hml]; exact hl.1) rfl dX3_init_1 (Nat.le_of_ble_eq_true rfl) (Nat.le_of_ble_eq_true rfl) ?_
  refine W.eq (g2 := F0 m 4 ls []) rfl ?_
  refine lv_aload_n hx hb dX3_init_4 rfl (lv_at hl 0 rfl) ?_
  refine lv_bipush (v := 6) hx hb dX3_init_5 (by decide) ?_
  refine va_newq (N' := 6) hx hb hown (hts _ m_X3_init_3) hC.2.2.2.1 hK hP hD hS hA (by decide) (by decide) (by decide) (Nat.le_of_ble_eq_true rfl) (Nat.le_of_ble_eq_true rfl) dX3_init_7 (fun q1_ cA_ H hKn hP hD hS => ?_)
  obtain rfl := va_K.oneO 3 rfl hKn
  have hP : va_P (dC, dI) vwCl [(h, .inr (3, [.null, .null, .null, .int 0, .int 0, .int 0, .int 0, .null, .null, .int 0])), (tr, .inr (10, [.ref ns, .ref nw])), (ns, .inl (cy 1, 32, .inr (.inr (.inr (.inr (va_up gf 0 (some nd))))))), (q1_, .inl (cy 3, 6, .inr (.inr (.inr (.inr (fun _ => none))))))] H := hP
  have hD : va_D A [(h, .inr (3, [.null, .null, .null, .int 0, .int 0, .int 0, .int 0, .null, .null, .int 0])), (tr, .inr (10, [.ref ns, .ref nw])), (ns, .inl (cy 1, 32, .inr (.inr (.inr (.inr (va_up gf 0 (some nd))))))), (q1_, .inl (cy 3, 6, .inr (.inr (.inr (.inr (fun _ => none))))))] := hD
  refine va_putF (D := (dC, dI)) (ci := 3) (v := .ref q1_) (ty := .array (.object "RestBoard$Frame")) (C := RX3) (T := TX3) (N := 10) hx hb hts i_X3_init_X3 tyX3 tyX3_ok nmX3 hown hK hP hD hS 0 rfl rfl 2 (by decide) (hts _ m_X3_init_4) (fun _ h9 => h9) rfl hin rfl (by decide +kernel) rfl rfl (Nat.le_of_ble_eq_true rfl) dX3_init_10 (fun H locs hP hD hS => ?_)
  have hP : va_P (dC, dI) vwCl [(h, .inr (3, [.null, .null, .ref q1_, .int 0, .int 0, .int 0, .int 0, .null, .null, .int 0])), (tr, .inr (10, [.ref ns, .ref nw])), (ns, .inl (cy 1, 32, .inr (.inr (.inr (.inr (va_up gf 0 (some nd))))))), (q1_, .inl (cy 3, 6, .inr (.inr (.inr (.inr (fun _ => none))))))] H := hP
  have hD : va_D A [(h, .inr (3, [.null, .null, .ref q1_, .int 0, .int 0, .int 0, .int 0, .null, .null, .int 0])), (tr, .inr (10, [.ref ns, .ref nw])), (ns, .inl (cy 1, 32, .inr (.inr (.inr (.inr (va_up gf 0 (some nd))))))), (q1_, .inl (cy 3, 6, .inr (.inr (.inr (.inr (fun _ => none))))))] := hD
  refine lv_aload_n hx hb dX3_init_13 rfl (lv_at hl 0 rfl) ?_
  refine lv_bipush (v := 15) hx hb dX3_init_14 (by decide) ?_
  refine va_newa (atype := .int) (N' := 15) (a0 := (15, .inl (fun _ => 0))) hx hb (hts _ m_X3_init_5) rfl hK hP hD hS hA (fun _ => rfl) (by decide) (by decide) (by decide) (Nat.le_of_ble_eq_true rfl) (Nat.le_of_ble_eq_true rfl) dX3_init_16 (fun q2_ cA_ H hKn hP hD hS => ?_)
  obtain rfl := va_K.oneI hKn
  have hP : va_P (dC, dI) vwCl [(h, .inr (3, [.null, .null, .ref q1_, .int 0, .int 0, .int 0, .int 0, .null, .null, .int 0])), (tr, .inr (10, [.ref ns, .ref nw])), (ns, .inl (cy 1, 32, .inr (.inr (.inr (.inr (va_up gf 0 (some nd))))))), (q1_, .inl (cy 3, 6, .inr (.inr (.inr (.inr (fun _ => none)))))), (q2_, .inl (cy 0, 15, .inl (fun _ => 0)))] H := hP
  have hD : va_D A [(h, .inr (3, [.null, .null, .ref q1_, .int 0, .int 0, .int 0, .int 0, .null, .null, .int 0])), (tr, .inr (10, [.ref ns, .ref nw])), (ns, .inl (cy 1, 32, .inr (.inr (.inr (.inr (va_up gf 0 (some nd))))))), (q1_, .inl (cy 3, 6, .inr (.inr (.inr (.inr (fun _ => none)))))), (q2_, .inl (cy 0, 15, .inl (fun _ => 0)))] := hD
  refine va_putF (D := (dC, dI)) (ci := 3) (v := .ref q2_) (ty := .array .int) (C := RX3) (T := TX3) (N := 10) hx hb hts i_X3_init_X3 tyX3 tyX3_ok nmX3 hown hK hP hD hS 0 rfl rfl 7 (by decide) (hts _ m_X3_init_6) (fun _ h9 => h9) rfl hin rfl (by decide +kernel) rfl rfl (Nat.le_of_ble_eq_true rfl) dX3_init_18 (fun H locs hP hD hS => ?_)
  have hP : va_P (dC, dI) vwCl [(h, .inr (3, [.null, .null, .ref q1_, .int 0, .int 0, .int 0, .int 0, .ref q2_, .null, .int 0])), (tr, .inr (10, [.ref ns, .ref nw])), (ns, .inl (cy 1, 32, .inr (.inr (.inr (.inr (va_up gf 0 (some nd))))))), (q1_, .inl (cy 3, 6, .inr (.inr (.inr (.inr (fun _ => none)))))), (q2_, .inl (cy 0, 15, .inl (fun _ => 0)))] H := hP
  have hD : va_D A [(h, .inr (3, [.null, .null, .ref q1_, .int 0, .int 0, .int 0, .int 0, .ref q2_, .null, .int 0])), (tr, .inr (10, [.ref ns, .ref nw])), (ns, .inl (cy 1, 32, .inr (.inr (.inr (.inr (va_up gf 0 (some nd))))))), (q1_, .inl (cy 3, 6, .inr (.inr (.inr (.inr (fun _ => none)))))), (q2_, .inl (cy 0, 15, .inl (fun _ => 0)))] := hD
  refine lv_aload_n hx hb dX3_init_21 rfl (lv_at hl 0 rfl) ?_
  refine lv_bipush (v := 15) hx hb dX3_init_22 (by decide) ?_
  refine va_newa (atype := .int) (N' := 15) (a0 := (15, .inl (fun _ => 0))) hx hb (hts _ m_X3_init_5) rfl hK hP hD hS hA (fun _ => rfl) (by decide) (by decide) (by decide) (Nat.le_of_ble_eq_true rfl) (Nat.le_of_ble_eq_true rfl) dX3_init_24 (fun q3_ cA_ H hKn hP hD hS => ?_)
  obtain rfl := va_K.oneI hKn
  have hP : va_P (dC, dI) vwCl [(h, .inr (3, [.null, .null, .ref q1_, .int 0, .int 0, .int 0, .int 0, .ref q2_, .null, .int 0])), (tr, .inr (10, [.ref ns, .ref nw])), (ns, .inl (cy 1, 32, .inr (.inr (.inr (.inr (va_up gf 0 (some nd))))))), (q1_, .inl (cy 3, 6, .inr (.inr (.inr (.inr (fun _ => none)))))), (q2_, .inl (cy 0, 15, .inl (fun _ => 0))), (q3_, .inl (cy 0, 15, .inl (fun _ => 0)))] H := hP
  have hD : va_D A [(h, .inr (3, [.null, .null, .ref q1_, .int 0, .int 0, .int 0, .int 0, .ref q2_, .null, .int 0])), (tr, .inr (10, [.ref ns, .ref nw])), (ns, .inl (cy 1, 32, .inr (.inr (.inr (.inr (va_up gf 0 (some nd))))))), (q1_, .inl (cy 3, 6, .inr (.inr (.inr (.inr (fun _ => none)))))), (q2_, .inl (cy 0, 15, .inl (fun _ => 0))), (q3_, .inl (cy 0, 15, .inl (fun _ => 0)))] := hD
  refine va_putF (D := (dC, dI)) (ci := 3) (v := .ref q3_) (ty := .array .int) (C := RX3) (T := TX3) (N := 10) hx hb hts i_X3_init_X3 tyX3 tyX3_ok nmX3 hown hK hP hD hS 0 rfl rfl 8 (by decide) (hts _ m_X3_init_7) (fun _ h9 => h9) rfl hin rfl (by decide +kernel) rfl rfl (Nat.le_of_ble_eq_true rfl) dX3_init_26 (fun H locs hP hD hS => ?_)
  have hP : va_P (dC, dI) vwCl [(h, .inr (3, [.null, .null, .ref q1_, .int 0, .int 0, .int 0, .int 0, .ref q2_, .ref q3_, .int 0])), (tr, .inr (10, [.ref ns, .ref nw])), (ns, .inl (cy 1, 32, .inr (.inr (.inr (.inr (va_up gf 0 (some nd))))))), (q1_, .inl (cy 3, 6, .inr (.inr (.inr (.inr (fun _ => none)))))), (q2_, .inl (cy 0, 15, .inl (fun _ => 0))), (q3_, .inl (cy 0, 15, .inl (fun _ => 0)))] H := hP
  have hD : va_D A [(h, .inr (3, [.null, .null, .ref q1_, .int 0, .int 0, .int 0, .int 0, .ref q2_, .ref q3_, .int 0])), (tr, .inr (10, [.ref ns, .ref nw])), (ns, .inl (cy 1, 32, .inr (.inr (.inr (.inr (va_up gf 0 (some nd))))))), (q1_, .inl (cy 3, 6, .inr (.inr (.inr (.inr (fun _ => none)))))), (q2_, .inl (cy 0, 15, .inl (fun _ => 0))), (q3_, .inl (cy 0, 15, .inl (fun _ => 0)))] := hD
  refine lv_aload_n hx hb dX3_init_29 rfl (lv_at hl 0 rfl) ?_
  refine lv_aload_n hx hb dX3_init_30 rfl (lv_at hl 1 rfl) ?_
  refine va_putF (D := (dC, dI)) (ci := 3) (v := .ref tr) (ty := .object "RestBoard$Tree") (C := RX3) (T := TX3) (N := 10) hx hb hts i_X3_init_X3 tyX3 tyX3_ok nmX3 hown hK hP hD hS 0 rfl rfl 0 (by decide) (hts _ m_X3_init_8) (fun _ h9 => h9) rfl hin rfl (by decide +kernel) rfl rfl (Nat.le_of_ble_eq_true rfl) dX3_init_31 (fun H locs hP hD hS => ?_)
  have hP : va_P (dC, dI) vwCl [(h, .inr (3, [.ref tr, .null, .ref q1_, .int 0, .int 0, .int 0, .int 0, .ref q2_, .ref q3_, .int 0])), (tr, .inr (10, [.ref ns, .ref nw])), (ns, .inl (cy 1, 32, .inr (.inr (.inr (.inr (va_up gf 0 (some nd))))))), (q1_, .inl (cy 3, 6, .inr (.inr (.inr (.inr (fun _ => none)))))), (q2_, .inl (cy 0, 15, .inl (fun _ => 0))), (q3_, .inl (cy 0, 15, .inl (fun _ => 0)))] H := hP
  have hD : va_D A [(h, .inr (3, [.ref tr, .null, .ref q1_, .int 0, .int 0, .int 0, .int 0, .ref q2_, .ref q3_, .int 0])), (tr, .inr (10, [.ref ns, .ref nw])), (ns, .inl (cy 1, 32, .inr (.inr (.inr (.inr (va_up gf 0 (some nd))))))), (q1_, .inl (cy 3, 6, .inr (.inr (.inr (.inr (fun _ => none)))))), (q2_, .inl (cy 0, 15, .inl (fun _ => 0))), (q3_, .inl (cy 0, 15, .inl (fun _ => 0)))] := hD
  refine lv_aload_n hx hb dX3_init_34 rfl (lv_at hl 0 rfl) ?_
  refine lv_aload_n hx hb dX3_init_35 rfl (lv_at hl 2 rfl) ?_
  refine va_putF (D := (dC, dI)) (ci := 3) (v := .ref nw) (ty := .object "RestBoard$State") (C := RX3) (T := TX3) (N := 10) hx hb hts i_X3_init_X3 tyX3 tyX3_ok nmX3 hown hK hP hD hS 0 rfl rfl 1 (by decide) (hts _ m_X3_init_9) (fun _ h9 => h9) rfl hin rfl (by decide +kernel) rfl rfl (Nat.le_of_ble_eq_true rfl) dX3_init_36 (fun H locs hP hD hS => ?_)
  have hP : va_P (dC, dI) vwCl [(h, .inr (3, [.ref tr, .ref nw, .ref q1_, .int 0, .int 0, .int 0, .int 0, .ref q2_, .ref q3_, .int 0])), (tr, .inr (10, [.ref ns, .ref nw])), (ns, .inl (cy 1, 32, .inr (.inr (.inr (.inr (va_up gf 0 (some nd))))))), (q1_, .inl (cy 3, 6, .inr (.inr (.inr (.inr (fun _ => none)))))), (q2_, .inl (cy 0, 15, .inl (fun _ => 0))), (q3_, .inl (cy 0, 15, .inl (fun _ => 0)))] H := hP
  have hD : va_D A [(h, .inr (3, [.ref tr, .ref nw, .ref q1_, .int 0, .int 0, .int 0, .int 0, .ref q2_, .ref q3_, .int 0])), (tr, .inr (10, [.ref ns, .ref nw])), (ns, .inl (cy 1, 32, .inr (.inr (.inr (.inr (va_up gf 0 (some nd))))))), (q1_, .inl (cy 3, 6, .inr (.inr (.inr (.inr (fun _ => none)))))), (q2_, .inl (cy 0, 15, .inl (fun _ => 0))), (q3_, .inl (cy 0, 15, .inl (fun _ => 0)))] := hD
  refine lv_iconst (v := 0) hx hb dX3_init_39 (by decide) ?_
  refine lv_istore_n (lv' := [(3, .int 0), (0, .ref h), (1, .ref tr), (2, .ref nw)]) hx hb dX3_init_40 rfl hl (by decide) rfl (fun ls hl => ?_)
  refine lv_iload_n hx hb dX3_init_41 rfl (lv_at hl 0 rfl) ?_
  refine lv_bipush (v := 6) hx hb dX3_init_42 (by decide) ?_
  refine lv_icmp_ge (tgt := 72) hx hb dX3_init_44 (by decide) (fun c9_ => absurd c9_ (by decide)) (fun _ => ?_)
  refine lv_aload_n hx hb dX3_init_47 rfl (lv_at hl 1 rfl) ?_
  refine va_get (D := (dC, dI)) (ci := 3) (v := .ref q1_) (C := RX3) (T := TX3) (N := 10) hx hb hts i_X3_init_X3 hown hK hP 0 rfl rfl 2 (by decide) (hts _ m_X3_init_4) (fun _ h9 => h9) rfl dX3_init_48 ?_
  refine lv_iload_n hx hb dX3_init_51 rfl (lv_at hl 0 rfl) ?_
  refine va_new (ci := 0) (fs := [.int 0, .int 0, .int 0, .int 0, .int 0, .int 0, .int 0, .null, .null, .null, .null, .null, .null]) (C := RX0) (T := TX0) (N := 13) hx hb hts i_X3_init_X0 tyX0 tyX0_ok hown (hts _ m_X3_init_3) (hts _ m_X3_init_10) (hts _ m_X3_init_11) hK hP hD hS hA rfl tfX0 (Nat.le_of_ble_eq_true rfl) (Nat.le_of_ble_eq_true rfl) dX3_init_52 (fun q4_ H hP hD hS => ?_)
  have hP : va_P (dC, dI) vwCl [(h, .inr (3, [.ref tr, .ref nw, .ref q1_, .int 0, .int 0, .int 0, .int 0, .ref q2_, .ref q3_, .int 0])), (tr, .inr (10, [.ref ns, .ref nw])), (ns, .inl (cy 1, 32, .inr (.inr (.inr (.inr (va_up gf 0 (some nd))))))), (q1_, .inl (cy 3, 6, .inr (.inr (.inr (.inr (fun _ => none)))))), (q2_, .inl (cy 0, 15, .inl (fun _ => 0))), (q3_, .inl (cy 0, 15, .inl (fun _ => 0))), (q4_, .inr (0, [.int 0, .int 0, .int 0, .int 0, .int 0, .int 0, .int 0, .null, .null, .null, .null, .null, .null]))] H := hP
  have hD : va_D A [(h, .inr (3, [.ref tr, .ref nw, .ref q1_, .int 0, .int 0, .int 0, .int 0, .ref q2_, .ref q3_, .int 0])), (tr, .inr (10, [.ref ns, .ref nw])), (ns, .inl (cy 1, 32, .inr (.inr (.inr (.inr (va_up gf 0 (some nd))))))), (q1_, .inl (cy 3, 6, .inr (.inr (.inr (.inr (fun _ => none)))))), (q2_, .inl (cy 0, 15, .inl (fun _ => 0))), (q3_, .inl (cy 0, 15, .inl (fun _ => 0))), (q4_, .inr (0, [.int 0, .int 0, .int 0, .int 0, .int 0, .int 0, .int 0, .null, .null, .null, .null, .null, .null]))] := hD
  refine lv_dup hx hb dX3_init_55 rfl ?_
  refine lv_aload_n hx hb dX3_init_56 rfl (lv_at hl 2 rfl) ?_
  refine va_get (D := (dC, dI)) (ci := 10) (v := .ref ns) (C := RX10) (T := TX10) (N := 2) hx hb hts i_X3_init_X10 hown hK hP 1 rfl rfl 0 (by decide) (hts _ m_X3_init_12) (fun _ h9 => h9) rfl dX3_init_57 ?_
  refine lv_iconst (v := 0) hx hb dX3_init_60 (by decide) ?_
  refine va_aldq hx hb hK hP 2 1 rfl rfl (show ¬ ((0 : Int32) < 0 ∨ 32 ≤ Int32.toNatClampNeg 0) by decide) dX3_init_61 ?_
  refine tk_v (.ref nd) (by rfl) ?_
  have hPc : va_P (dC, dI) vwCl ([(q4_, .inr (0, [.int 0, .int 0, .int 0, .int 0, .int 0, .int 0, .int 0, .null, .null, .null, .null, .null, .null]))]) _ := hP.sub [6] rfl
  have hDc := hD.sub (ws' := [(q4_, .inr (0, [.int 0, .int 0, .int 0, .int 0, .int 0, .int 0, .int 0, .null, .null, .null, .null, .null, .null]))]) [6] (by decide) rfl
  have hFc := va_free (wc := [(q4_, .inr (0, [.int 0, .int 0, .int 0, .int 0, .int 0, .int 0, .int 0, .null, .null, .null, .null, .null, .null]))]) hD hS hA [6] rfl
  refine va_callv (va_runI (As := [.ref nd]) (rest := [.ref q4_, .int 0, .ref q1_]) ⟨hx, hb, hml, hown, hts⟩ (c_X0_init l dC dI cy q4_ nd _) (cwI 1 hts g_X3_init_X0_init_38 rfl rfl rfl (hts _ m_X3_init_11) (hts _ m_X3_init_13) (hts _ m_X3_init_14) rfl (by decide +kernel) ⟨Nat.le_of_ble_eq_true rfl, Nat.le_of_ble_eq_true rfl⟩) (pS_ps hC hPc hDc) rfl rfl hl.1 rfl (lv_room (Nat.le_of_ble_eq_true rfl)) dX3_init_62 ⟨Nat.le_of_ble_eq_true rfl, Nat.le_of_ble_eq_true rfl⟩) hS (fun q _ h => hFc q h) hFc (fun u t_ H1 locs ht hvm hw hB hz1 hk1 hS => ?_)
  obtain ⟨u5_, rfl⟩ : ∃ z, z = u := ⟨_, rfl⟩
  obtain ⟨hP1, hD1⟩ := hB
  rw [ht] at hP1
  obtain ⟨hP, hD⟩ := va_join (wr := [(h, .inr (3, [.ref tr, .ref nw, .ref q1_, .int 0, .int 0, .int 0, .int 0, .ref q2_, .ref q3_, .int 0])), (tr, .inr (10, [.ref ns, .ref nw])), (ns, .inl (cy 1, 32, .inr (.inr (.inr (.inr (va_up gf 0 (some nd))))))), (q1_, .inl (cy 3, 6, .inr (.inr (.inr (.inr (fun _ => none)))))), (q2_, .inl (cy 0, 15, .inl (fun _ => 0))), (q3_, .inl (cy 0, 15, .inl (fun _ => 0)))]) (w1 := [(q4_, .inr (0, [.int 0, .int 0, .int 0, .int 0, .int 0, .int 0, .int 0, .ref (u5_.1 0), .ref (u5_.1 1), .ref (u5_.1 2), .ref (u5_.1 3), .ref (u5_.1 4), .ref nd]))]) hP hD [6] [0, 1, 2, 3, 4, 5] rfl rfl (by decide) (by decide) hk1 hFc hP1 hD1
  generalize H1 = H at hP hS ⊢
  have hP : va_P (dC, dI) vwCl ([(h, .inr (3, [.ref tr, .ref nw, .ref q1_, .int 0, .int 0, .int 0, .int 0, .ref q2_, .ref q3_, .int 0])), (tr, .inr (10, [.ref ns, .ref nw])), (ns, .inl (cy 1, 32, .inr (.inr (.inr (.inr (va_up gf 0 (some nd))))))), (q1_, .inl (cy 3, 6, .inr (.inr (.inr (.inr (fun _ => none)))))), (q2_, .inl (cy 0, 15, .inl (fun _ => 0))), (q3_, .inl (cy 0, 15, .inl (fun _ => 0))), (q4_, .inr (0, [.int 0, .int 0, .int 0, .int 0, .int 0, .int 0, .int 0, .ref (u5_.1 0), .ref (u5_.1 1), .ref (u5_.1 2), .ref (u5_.1 3), .ref (u5_.1 4), .ref nd]))]) H := hP
  have hD : va_D A ([(h, .inr (3, [.ref tr, .ref nw, .ref q1_, .int 0, .int 0, .int 0, .int 0, .ref q2_, .ref q3_, .int 0])), (tr, .inr (10, [.ref ns, .ref nw])), (ns, .inl (cy 1, 32, .inr (.inr (.inr (.inr (va_up gf 0 (some nd))))))), (q1_, .inl (cy 3, 6, .inr (.inr (.inr (.inr (fun _ => none)))))), (q2_, .inl (cy 0, 15, .inl (fun _ => 0))), (q3_, .inl (cy 0, 15, .inl (fun _ => 0))), (q4_, .inr (0, [.int 0, .int 0, .int 0, .int 0, .int 0, .int 0, .int 0, .ref (u5_.1 0), .ref (u5_.1 1), .ref (u5_.1 2), .ref (u5_.1 3), .ref (u5_.1 4), .ref nd]))]) := hD
  refine va_astq hx hb hK hP hD hS 3 3 6 0 rfl rfl rfl rfl (show ¬ ((0 : Int32) < 0 ∨ 6 ≤ Int32.toNatClampNeg 0) by decide) dX3_init_65 (fun H locs hP hD hS => ?_)
  have hP : va_P (dC, dI) vwCl [(h, .inr (3, [.ref tr, .ref nw, .ref q1_, .int 0, .int 0, .int 0, .int 0, .ref q2_, .ref q3_, .int 0])), (tr, .inr (10, [.ref ns, .ref nw])), (ns, .inl (cy 1, 32, .inr (.inr (.inr (.inr (va_up gf 0 (some nd))))))), (q1_, .inl (cy 3, 6, .inr (.inr (.inr (.inr (va_up (fun _ => none) 0 (some q4_))))))), (q2_, .inl (cy 0, 15, .inl (fun _ => 0))), (q3_, .inl (cy 0, 15, .inl (fun _ => 0))), (q4_, .inr (0, [.int 0, .int 0, .int 0, .int 0, .int 0, .int 0, .int 0, .ref (u5_.1 0), .ref (u5_.1 1), .ref (u5_.1 2), .ref (u5_.1 3), .ref (u5_.1 4), .ref nd]))] H := hP
  have hD : va_D A [(h, .inr (3, [.ref tr, .ref nw, .ref q1_, .int 0, .int 0, .int 0, .int 0, .ref q2_, .ref q3_, .int 0])), (tr, .inr (10, [.ref ns, .ref nw])), (ns, .inl (cy 1, 32, .inr (.inr (.inr (.inr (va_up gf 0 (some nd))))))), (q1_, .inl (cy 3, 6, .inr (.inr (.inr (.inr (va_up (fun _ => none) 0 (some q4_))))))), (q2_, .inl (cy 0, 15, .inl (fun _ => 0))), (q3_, .inl (cy 0, 15, .inl (fun _ => 0))), (q4_, .inr (0, [.int 0, .int 0, .int 0, .int 0, .int 0, .int 0, .int 0, .ref (u5_.1 0), .ref (u5_.1 1), .ref (u5_.1 2), .ref (u5_.1 3), .ref (u5_.1 4), .ref nd]))] := hD
  have hP := hP.sub (ws' := [(h, .inr (3, [.ref tr, .ref nw, .ref q1_, .int 0, .int 0, .int 0, .int 0, .ref q2_, .ref q3_, .int 0])), (tr, .inr (10, [.ref ns, .ref nw])), (ns, .inl (cy 1, 32, .inr (.inr (.inr (.inr (va_up gf 0 (some nd))))))), (q1_, .inl (cy 3, 6, .inr (.inr (.inr (.inr (va_up (fun _ => none) 0 (some q4_))))))), (q2_, .inl (cy 0, 15, .inl (fun _ => 0))), (q3_, .inl (cy 0, 15, .inl (fun _ => 0)))]) [0, 1, 2, 3, 4, 5] rfl
  have hD := hD.sub (ws' := [(h, .inr (3, [.ref tr, .ref nw, .ref q1_, .int 0, .int 0, .int 0, .int 0, .ref q2_, .ref q3_, .int 0])), (tr, .inr (10, [.ref ns, .ref nw])), (ns, .inl (cy 1, 32, .inr (.inr (.inr (.inr (va_up gf 0 (some nd))))))), (q1_, .inl (cy 3, 6, .inr (.inr (.inr (.inr (va_up (fun _ => none) 0 (some q4_))))))), (q2_, .inl (cy 0, 15, .inl (fun _ => 0))), (q3_, .inl (cy 0, 15, .inl (fun _ => 0)))]) [0, 1, 2, 3, 4, 5] (by decide) rfl
  refine lv_iinc (v := 1) (lv' := [(3, .int 1), (0, .ref h), (1, .ref tr), (2, .ref nw)]) hx hb dX3_init_66 hl (k := 0) rfl (by decide) (by decide) rfl (fun ls hl => ?_)
  refine lv_goto (tgt := 41) hx hb dX3_init_69 (by decide) ?_
  refine lv_iload_n hx hb dX3_init_41 rfl (lv_at hl 0 rfl) ?_
  refine lv_bipush (v := 6) hx hb dX3_init_42 (by decide) ?_
  refine lv_icmp_ge (tgt := 72) hx hb dX3_init_44 (by decide) (fun c9_ => absurd c9_ (by decide)) (fun _ => ?_)
  refine lv_aload_n hx hb dX3_init_47 rfl (lv_at hl 1 rfl) ?_
  refine va_get (D := (dC, dI)) (ci := 3) (v := .ref q1_) (C := RX3) (T := TX3) (N := 10) hx hb hts i_X3_init_X3 hown hK hP 0 rfl rfl 2 (by decide) (hts _ m_X3_init_4) (fun _ h9 => h9) rfl dX3_init_48 ?_
  refine lv_iload_n hx hb dX3_init_51 rfl (lv_at hl 0 rfl) ?_
  refine va_new (ci := 0) (fs := [.int 0, .int 0, .int 0, .int 0, .int 0, .int 0, .int 0, .null, .null, .null, .null, .null, .null]) (C := RX0) (T := TX0) (N := 13) hx hb hts i_X3_init_X0 tyX0 tyX0_ok hown (hts _ m_X3_init_3) (hts _ m_X3_init_10) (hts _ m_X3_init_11) hK hP hD hS hA rfl tfX0 (Nat.le_of_ble_eq_true rfl) (Nat.le_of_ble_eq_true rfl) dX3_init_52 (fun q6_ H hP hD hS => ?_)
  have hP : va_P (dC, dI) vwCl [(h, .inr (3, [.ref tr, .ref nw, .ref q1_, .int 0, .int 0, .int 0, .int 0, .ref q2_, .ref q3_, .int 0])), (tr, .inr (10, [.ref ns, .ref nw])), (ns, .inl (cy 1, 32, .inr (.inr (.inr (.inr (va_up gf 0 (some nd))))))), (q1_, .inl (cy 3, 6, .inr (.inr (.inr (.inr (va_up (fun _ => none) 0 (some q4_))))))), (q2_, .inl (cy 0, 15, .inl (fun _ => 0))), (q3_, .inl (cy 0, 15, .inl (fun _ => 0))), (q6_, .inr (0, [.int 0, .int 0, .int 0, .int 0, .int 0, .int 0, .int 0, .null, .null, .null, .null, .null, .null]))] H := hP
  have hD : va_D A [(h, .inr (3, [.ref tr, .ref nw, .ref q1_, .int 0, .int 0, .int 0, .int 0, .ref q2_, .ref q3_, .int 0])), (tr, .inr (10, [.ref ns, .ref nw])), (ns, .inl (cy 1, 32, .inr (.inr (.inr (.inr (va_up gf 0 (some nd))))))), (q1_, .inl (cy 3, 6, .inr (.inr (.inr (.inr (va_up (fun _ => none) 0 (some q4_))))))), (q2_, .inl (cy 0, 15, .inl (fun _ => 0))), (q3_, .inl (cy 0, 15, .inl (fun _ => 0))), (q6_, .inr (0, [.int 0, .int 0, .int 0, .int 0, .int 0, .int 0, .int 0, .null, .null, .null, .null, .null, .null]))] := hD
  refine lv_dup hx hb dX3_init_55 rfl ?_
  refine lv_aload_n hx hb dX3_init_56 rfl (lv_at hl 2 rfl) ?_
  refine va_get (D := (dC, dI)) (ci := 10) (v := .ref ns) (C := RX10) (T := TX10) (N := 2) hx hb hts i_X3_init_X10 hown hK hP 1 rfl rfl 0 (by decide) (hts _ m_X3_init_12) (fun _ h9 => h9) rfl dX3_init_57 ?_
  refine lv_iconst (v := 0) hx hb dX3_init_60 (by decide) ?_
  refine va_aldq hx hb hK hP 2 1 rfl rfl (show ¬ ((0 : Int32) < 0 ∨ 32 ≤ Int32.toNatClampNeg 0) by decide) dX3_init_61 ?_
  refine tk_v (.ref nd) (by rfl) ?_
  have hPc : va_P (dC, dI) vwCl ([(q6_, .inr (0, [.int 0, .int 0, .int 0, .int 0, .int 0, .int 0, .int 0, .null, .null, .null, .null, .null, .null]))]) _ := hP.sub [6] rfl
  have hDc := hD.sub (ws' := [(q6_, .inr (0, [.int 0, .int 0, .int 0, .int 0, .int 0, .int 0, .int 0, .null, .null, .null, .null, .null, .null]))]) [6] (by decide) rfl
  have hFc := va_free (wc := [(q6_, .inr (0, [.int 0, .int 0, .int 0, .int 0, .int 0, .int 0, .int 0, .null, .null, .null, .null, .null, .null]))]) hD hS hA [6] rfl
  refine va_callv (va_runI (As := [.ref nd]) (rest := [.ref q6_, .int 1, .ref q1_]) ⟨hx, hb, hml, hown, hts⟩ (c_X0_init l dC dI cy q6_ nd _) (cwI 1 hts g_X3_init_X0_init_38 rfl rfl rfl (hts _ m_X3_init_11) (hts _ m_X3_init_13) (hts _ m_X3_init_14) rfl (by decide +kernel) ⟨Nat.le_of_ble_eq_true rfl, Nat.le_of_ble_eq_true rfl⟩) (pS_ps hC hPc hDc) rfl rfl hl.1 rfl (lv_room (Nat.le_of_ble_eq_true rfl)) dX3_init_62 ⟨Nat.le_of_ble_eq_true rfl, Nat.le_of_ble_eq_true rfl⟩) hS (fun q _ h => hFc q h) hFc (fun u t_ H1 locs ht hvm hw hB hz1 hk1 hS => ?_)
  obtain ⟨u7_, rfl⟩ : ∃ z, z = u := ⟨_, rfl⟩
  obtain ⟨hP1, hD1⟩ := hB
  rw [ht] at hP1
  obtain ⟨hP, hD⟩ := va_join (wr := [(h, .inr (3, [.ref tr, .ref nw, .ref q1_, .int 0, .int 0, .int 0, .int 0, .ref q2_, .ref q3_, .int 0])), (tr, .inr (10, [.ref ns, .ref nw])), (ns, .inl (cy 1, 32, .inr (.inr (.inr (.inr (va_up gf 0 (some nd))))))), (q1_, .inl (cy 3, 6, .inr (.inr (.inr (.inr (va_up (fun _ => none) 0 (some q4_))))))), (q2_, .inl (cy 0, 15, .inl (fun _ => 0))), (q3_, .inl (cy 0, 15, .inl (fun _ => 0)))]) (w1 := [(q6_, .inr (0, [.int 0, .int 0, .int 0, .int 0, .int 0, .int 0, .int 0, .ref (u7_.1 0), .ref (u7_.1 1), .ref (u7_.1 2), .ref (u7_.1 3), .ref (u7_.1 4), .ref nd]))]) hP hD [6] [0, 1, 2, 3, 4, 5] rfl rfl (by decide) (by decide) hk1 hFc hP1 hD1
  generalize H1 = H at hP hS ⊢
  have hP : va_P (dC, dI) vwCl ([(h, .inr (3, [.ref tr, .ref nw, .ref q1_, .int 0, .int 0, .int 0, .int 0, .ref q2_, .ref q3_, .int 0])), (tr, .inr (10, [.ref ns, .ref nw])), (ns, .inl (cy 1, 32, .inr (.inr (.inr (.inr (va_up gf 0 (some nd))))))), (q1_, .inl (cy 3, 6, .inr (.inr (.inr (.inr (va_up (fun _ => none) 0 (some q4_))))))), (q2_, .inl (cy 0, 15, .inl (fun _ => 0))), (q3_, .inl (cy 0, 15, .inl (fun _ => 0))), (q6_, .inr (0, [.int 0, .int 0, .int 0, .int 0, .int 0, .int 0, .int 0, .ref (u7_.1 0), .ref (u7_.1 1), .ref (u7_.1 2), .ref (u7_.1 3), .ref (u7_.1 4), .ref nd]))]) H := hP
  have hD : va_D A ([(h, .inr (3, [.ref tr, .ref nw, .ref q1_, .int 0, .int 0, .int 0, .int 0, .ref q2_, .ref q3_, .int 0])), (tr, .inr (10, [.ref ns, .ref nw])), (ns, .inl (cy 1, 32, .inr (.inr (.inr (.inr (va_up gf 0 (some nd))))))), (q1_, .inl (cy 3, 6, .inr (.inr (.inr (.inr (va_up (fun _ => none) 0 (some q4_))))))), (q2_, .inl (cy 0, 15, .inl (fun _ => 0))), (q3_, .inl (cy 0, 15, .inl (fun _ => 0))), (q6_, .inr (0, [.int 0, .int 0, .int 0, .int 0, .int 0, .int 0, .int 0, .ref (u7_.1 0), .ref (u7_.1 1), .ref (u7_.1 2), .ref (u7_.1 3), .ref (u7_.1 4), .ref nd]))]) := hD
  refine va_astq hx hb hK hP hD hS 3 3 6 0 rfl rfl rfl rfl (show ¬ ((1 : Int32) < 0 ∨ 6 ≤ Int32.toNatClampNeg 1) by decide) dX3_init_65 (fun H locs hP hD hS => ?_)
  have hP : va_P (dC, dI) vwCl [(h, .inr (3, [.ref tr, .ref nw, .ref q1_, .int 0, .int 0, .int 0, .int 0, .ref q2_, .ref q3_, .int 0])), (tr, .inr (10, [.ref ns, .ref nw])), (ns, .inl (cy 1, 32, .inr (.inr (.inr (.inr (va_up gf 0 (some nd))))))), (q1_, .inl (cy 3, 6, .inr (.inr (.inr (.inr (va_up (va_up (fun _ => none) 0 (some q4_)) 1 (some q6_))))))), (q2_, .inl (cy 0, 15, .inl (fun _ => 0))), (q3_, .inl (cy 0, 15, .inl (fun _ => 0))), (q6_, .inr (0, [.int 0, .int 0, .int 0, .int 0, .int 0, .int 0, .int 0, .ref (u7_.1 0), .ref (u7_.1 1), .ref (u7_.1 2), .ref (u7_.1 3), .ref (u7_.1 4), .ref nd]))] H := hP
  have hD : va_D A [(h, .inr (3, [.ref tr, .ref nw, .ref q1_, .int 0, .int 0, .int 0, .int 0, .ref q2_, .ref q3_, .int 0])), (tr, .inr (10, [.ref ns, .ref nw])), (ns, .inl (cy 1, 32, .inr (.inr (.inr (.inr (va_up gf 0 (some nd))))))), (q1_, .inl (cy 3, 6, .inr (.inr (.inr (.inr (va_up (va_up (fun _ => none) 0 (some q4_)) 1 (some q6_))))))), (q2_, .inl (cy 0, 15, .inl (fun _ => 0))), (q3_, .inl (cy 0, 15, .inl (fun _ => 0))), (q6_, .inr (0, [.int 0, .int 0, .int 0, .int 0, .int 0, .int 0, .int 0, .ref (u7_.1 0), .ref (u7_.1 1), .ref (u7_.1 2), .ref (u7_.1 3), .ref (u7_.1 4), .ref nd]))] := hD
  have hP := hP.sub (ws' := [(h, .inr (3, [.ref tr, .ref nw, .ref q1_, .int 0, .int 0, .int 0, .int 0, .ref q2_, .ref q3_, .int 0])), (tr, .inr (10, [.ref ns, .ref nw])), (ns, .inl (cy 1, 32, .inr (.inr (.inr (.inr (va_up gf 0 (some nd))))))), (q1_, .inl (cy 3, 6, .inr (.inr (.inr (.inr (va_up (va_up (fun _ => none) 0 (some q4_)) 1 (some q6_))))))), (q2_, .inl (cy 0, 15, .inl (fun _ => 0))), (q3_, .inl (cy 0, 15, .inl (fun _ => 0)))]) [0, 1, 2, 3, 4, 5] rfl
  have hD := hD.sub (ws' := [(h, .inr (3, [.ref tr, .ref nw, .ref q1_, .int 0, .int 0, .int 0, .int 0, .ref q2_, .ref q3_, .int 0])), (tr, .inr (10, [.ref ns, .ref nw])), (ns, .inl (cy 1, 32, .inr (.inr (.inr (.inr (va_up gf 0 (some nd))))))), (q1_, .inl (cy 3, 6, .inr (.inr (.inr (.inr (va_up (va_up (fun _ => none) 0 (some q4_)) 1 (some q6_))))))), (q2_, .inl (cy 0, 15, .inl (fun _ => 0))), (q3_, .inl (cy 0, 15, .inl (fun _ => 0)))]) [0, 1, 2, 3, 4, 5] (by decide) rfl
  refine lv_iinc (v := 2) (lv' := [(3, .int 2), (0, .ref h), (1, .ref tr), (2, .ref nw)]) hx hb dX3_init_66 hl (k := 0) rfl (by decide) (by decide) rfl (fun ls hl => ?_)
  refine lv_goto (tgt := 41) hx hb dX3_init_69 (by decide) ?_
  refine lv_iload_n hx hb dX3_init_41 rfl (lv_at hl 0 rfl) ?_
  refine lv_bipush (v := 6) hx hb dX3_init_42 (by decide) ?_
  refine lv_icmp_ge (tgt := 72) hx hb dX3_init_44 (by decide) (fun c9_ => absurd c9_ (by decide)) (fun _ => ?_)
  refine lv_aload_n hx hb dX3_init_47 rfl (lv_at hl 1 rfl) ?_
  refine va_get (D := (dC, dI)) (ci := 3) (v := .ref q1_) (C := RX3) (T := TX3) (N := 10) hx hb hts i_X3_init_X3 hown hK hP 0 rfl rfl 2 (by decide) (hts _ m_X3_init_4) (fun _ h9 => h9) rfl dX3_init_48 ?_
  refine lv_iload_n hx hb dX3_init_51 rfl (lv_at hl 0 rfl) ?_
  refine va_new (ci := 0) (fs := [.int 0, .int 0, .int 0, .int 0, .int 0, .int 0, .int 0, .null, .null, .null, .null, .null, .null]) (C := RX0) (T := TX0) (N := 13) hx hb hts i_X3_init_X0 tyX0 tyX0_ok hown (hts _ m_X3_init_3) (hts _ m_X3_init_10) (hts _ m_X3_init_11) hK hP hD hS hA rfl tfX0 (Nat.le_of_ble_eq_true rfl) (Nat.le_of_ble_eq_true rfl) dX3_init_52 (fun q8_ H hP hD hS => ?_)
  have hP : va_P (dC, dI) vwCl [(h, .inr (3, [.ref tr, .ref nw, .ref q1_, .int 0, .int 0, .int 0, .int 0, .ref q2_, .ref q3_, .int 0])), (tr, .inr (10, [.ref ns, .ref nw])), (ns, .inl (cy 1, 32, .inr (.inr (.inr (.inr (va_up gf 0 (some nd))))))), (q1_, .inl (cy 3, 6, .inr (.inr (.inr (.inr (va_up (va_up (fun _ => none) 0 (some q4_)) 1 (some q6_))))))), (q2_, .inl (cy 0, 15, .inl (fun _ => 0))), (q3_, .inl (cy 0, 15, .inl (fun _ => 0))), (q8_, .inr (0, [.int 0, .int 0, .int 0, .int 0, .int 0, .int 0, .int 0, .null, .null, .null, .null, .null, .null]))] H := hP
  have hD : va_D A [(h, .inr (3, [.ref tr, .ref nw, .ref q1_, .int 0, .int 0, .int 0, .int 0, .ref q2_, .ref q3_, .int 0])), (tr, .inr (10, [.ref ns, .ref nw])), (ns, .inl (cy 1, 32, .inr (.inr (.inr (.inr (va_up gf 0 (some nd))))))), (q1_, .inl (cy 3, 6, .inr (.inr (.inr (.inr (va_up (va_up (fun _ => none) 0 (some q4_)) 1 (some q6_))))))), (q2_, .inl (cy 0, 15, .inl (fun _ => 0))), (q3_, .inl (cy 0, 15, .inl (fun _ => 0))), (q8_, .inr (0, [.int 0, .int 0, .int 0, .int 0, .int 0, .int 0, .int 0, .null, .null, .null, .null, .null, .null]))] := hD
  refine lv_dup hx hb dX3_init_55 rfl ?_
  refine lv_aload_n hx hb dX3_init_56 rfl (lv_at hl 2 rfl) ?_
  refine va_get (D := (dC, dI)) (ci := 10) (v := .ref ns) (C := RX10) (T := TX10) (N := 2) hx hb hts i_X3_init_X10 hown hK hP 1 rfl rfl 0 (by decide) (hts _ m_X3_init_12) (fun _ h9 => h9) rfl dX3_init_57 ?_
  refine lv_iconst (v := 0) hx hb dX3_init_60 (by decide) ?_
  refine va_aldq hx hb hK hP 2 1 rfl rfl (show ¬ ((0 : Int32) < 0 ∨ 32 ≤ Int32.toNatClampNeg 0) by decide) dX3_init_61 ?_
  refine tk_v (.ref nd) (by rfl) ?_
  have hPc : va_P (dC, dI) vwCl ([(q8_, .inr (0, [.int 0, .int 0, .int 0, .int 0, .int 0, .int 0, .int 0, .null, .null, .null, .null, .null, .null]))]) _ := hP.sub [6] rfl
  have hDc := hD.sub (ws' := [(q8_, .inr (0, [.int 0, .int 0, .int 0, .int 0, .int 0, .int 0, .int 0, .null, .null, .null, .null, .null, .null]))]) [6] (by decide) rfl
  have hFc := va_free (wc := [(q8_, .inr (0, [.int 0, .int 0, .int 0, .int 0, .int 0, .int 0, .int 0, .null, .null, .null, .null, .null, .null]))]) hD hS hA [6] rfl
  refine va_callv (va_runI (As := [.ref nd]) (rest := [.ref q8_, .int 2, .ref q1_]) ⟨hx, hb, hml, hown, hts⟩ (c_X0_init l dC dI cy q8_ nd _) (cwI 1 hts g_X3_init_X0_init_38 rfl rfl rfl (hts _ m_X3_init_11) (hts _ m_X3_init_13) (hts _ m_X3_init_14) rfl (by decide +kernel) ⟨Nat.le_of_ble_eq_true rfl, Nat.le_of_ble_eq_true rfl⟩) (pS_ps hC hPc hDc) rfl rfl hl.1 rfl (lv_room (Nat.le_of_ble_eq_true rfl)) dX3_init_62 ⟨Nat.le_of_ble_eq_true rfl, Nat.le_of_ble_eq_true rfl⟩) hS (fun q _ h => hFc q h) hFc (fun u t_ H1 locs ht hvm hw hB hz1 hk1 hS => ?_)
  obtain ⟨u9_, rfl⟩ : ∃ z, z = u := ⟨_, rfl⟩
  obtain ⟨hP1, hD1⟩ := hB
  rw [ht] at hP1
  obtain ⟨hP, hD⟩ := va_join (wr := [(h, .inr (3, [.ref tr, .ref nw, .ref q1_, .int 0, .int 0, .int 0, .int 0, .ref q2_, .ref q3_, .int 0])), (tr, .inr (10, [.ref ns, .ref nw])), (ns, .inl (cy 1, 32, .inr (.inr (.inr (.inr (va_up gf 0 (some nd))))))), (q1_, .inl (cy 3, 6, .inr (.inr (.inr (.inr (va_up (va_up (fun _ => none) 0 (some q4_)) 1 (some q6_))))))), (q2_, .inl (cy 0, 15, .inl (fun _ => 0))), (q3_, .inl (cy 0, 15, .inl (fun _ => 0)))]) (w1 := [(q8_, .inr (0, [.int 0, .int 0, .int 0, .int 0, .int 0, .int 0, .int 0, .ref (u9_.1 0), .ref (u9_.1 1), .ref (u9_.1 2), .ref (u9_.1 3), .ref (u9_.1 4), .ref nd]))]) hP hD [6] [0, 1, 2, 3, 4, 5] rfl rfl (by decide) (by decide) hk1 hFc hP1 hD1
  generalize H1 = H at hP hS ⊢
  have hP : va_P (dC, dI) vwCl ([(h, .inr (3, [.ref tr, .ref nw, .ref q1_, .int 0, .int 0, .int 0, .int 0, .ref q2_, .ref q3_, .int 0])), (tr, .inr (10, [.ref ns, .ref nw])), (ns, .inl (cy 1, 32, .inr (.inr (.inr (.inr (va_up gf 0 (some nd))))))), (q1_, .inl (cy 3, 6, .inr (.inr (.inr (.inr (va_up (va_up (fun _ => none) 0 (some q4_)) 1 (some q6_))))))), (q2_, .inl (cy 0, 15, .inl (fun _ => 0))), (q3_, .inl (cy 0, 15, .inl (fun _ => 0))), (q8_, .inr (0, [.int 0, .int 0, .int 0, .int 0, .int 0, .int 0, .int 0, .ref (u9_.1 0), .ref (u9_.1 1), .ref (u9_.1 2), .ref (u9_.1 3), .ref (u9_.1 4), .ref nd]))]) H := hP
  have hD : va_D A ([(h, .inr (3, [.ref tr, .ref nw, .ref q1_, .int 0, .int 0, .int 0, .int 0, .ref q2_, .ref q3_, .int 0])), (tr, .inr (10, [.ref ns, .ref nw])), (ns, .inl (cy 1, 32, .inr (.inr (.inr (.inr (va_up gf 0 (some nd))))))), (q1_, .inl (cy 3, 6, .inr (.inr (.inr (.inr (va_up (va_up (fun _ => none) 0 (some q4_)) 1 (some q6_))))))), (q2_, .inl (cy 0, 15, .inl (fun _ => 0))), (q3_, .inl (cy 0, 15, .inl (fun _ => 0))), (q8_, .inr (0, [.int 0, .int 0, .int 0, .int 0, .int 0, .int 0, .int 0, .ref (u9_.1 0), .ref (u9_.1 1), .ref (u9_.1 2), .ref (u9_.1 3), .ref (u9_.1 4), .ref nd]))]) := hD
  refine va_astq hx hb hK hP hD hS 3 3 6 0 rfl rfl rfl rfl (show ¬ ((2 : Int32) < 0 ∨ 6 ≤ Int32.toNatClampNeg 2) by decide) dX3_init_65 (fun H locs hP hD hS => ?_)
  have hP : va_P (dC, dI) vwCl [(h, .inr (3, [.ref tr, .ref nw, .ref q1_, .int 0, .int 0, .int 0, .int 0, .ref q2_, .ref q3_, .int 0])), (tr, .inr (10, [.ref ns, .ref nw])), (ns, .inl (cy 1, 32, .inr (.inr (.inr (.inr (va_up gf 0 (some nd))))))), (q1_, .inl (cy 3, 6, .inr (.inr (.inr (.inr (va_up (va_up (va_up (fun _ => none) 0 (some q4_)) 1 (some q6_)) 2 (some q8_))))))), (q2_, .inl (cy 0, 15, .inl (fun _ => 0))), (q3_, .inl (cy 0, 15, .inl (fun _ => 0))), (q8_, .inr (0, [.int 0, .int 0, .int 0, .int 0, .int 0, .int 0, .int 0, .ref (u9_.1 0), .ref (u9_.1 1), .ref (u9_.1 2), .ref (u9_.1 3), .ref (u9_.1 4), .ref nd]))] H := hP
  have hD : va_D A [(h, .inr (3, [.ref tr, .ref nw, .ref q1_, .int 0, .int 0, .int 0, .int 0, .ref q2_, .ref q3_, .int 0])), (tr, .inr (10, [.ref ns, .ref nw])), (ns, .inl (cy 1, 32, .inr (.inr (.inr (.inr (va_up gf 0 (some nd))))))), (q1_, .inl (cy 3, 6, .inr (.inr (.inr (.inr (va_up (va_up (va_up (fun _ => none) 0 (some q4_)) 1 (some q6_)) 2 (some q8_))))))), (q2_, .inl (cy 0, 15, .inl (fun _ => 0))), (q3_, .inl (cy 0, 15, .inl (fun _ => 0))), (q8_, .inr (0, [.int 0, .int 0, .int 0, .int 0, .int 0, .int 0, .int 0, .ref (u9_.1 0), .ref (u9_.1 1), .ref (u9_.1 2), .ref (u9_.1 3), .ref (u9_.1 4), .ref nd]))] := hD
  have hP := hP.sub (ws' := [(h, .inr (3, [.ref tr, .ref nw, .ref q1_, .int 0, .int 0, .int 0, .int 0, .ref q2_, .ref q3_, .int 0])), (tr, .inr (10, [.ref ns, .ref nw])), (ns, .inl (cy 1, 32, .inr (.inr (.inr (.inr (va_up gf 0 (some nd))))))), (q1_, .inl (cy 3, 6, .inr (.inr (.inr (.inr (va_up (va_up (va_up (fun _ => none) 0 (some q4_)) 1 (some q6_)) 2 (some q8_))))))), (q2_, .inl (cy 0, 15, .inl (fun _ => 0))), (q3_, .inl (cy 0, 15, .inl (fun _ => 0)))]) [0, 1, 2, 3, 4, 5] rfl
  have hD := hD.sub (ws' := [(h, .inr (3, [.ref tr, .ref nw, .ref q1_, .int 0, .int 0, .int 0, .int 0, .ref q2_, .ref q3_, .int 0])), (tr, .inr (10, [.ref ns, .ref nw])), (ns, .inl (cy 1, 32, .inr (.inr (.inr (.inr (va_up gf 0 (some nd))))))), (q1_, .inl (cy 3, 6, .inr (.inr (.inr (.inr (va_up (va_up (va_up (fun _ => none) 0 (some q4_)) 1 (some q6_)) 2 (some q8_))))))), (q2_, .inl (cy 0, 15, .inl (fun _ => 0))), (q3_, .inl (cy 0, 15, .inl (fun _ => 0)))]) [0, 1, 2, 3, 4, 5] (by decide) rfl
  refine lv_iinc (v := 3) (lv' := [(3, .int 3), (0, .ref h), (1, .ref tr), (2, .ref nw)]) hx hb dX3_init_66 hl (k := 0) rfl (by decide) (by decide) rfl (fun ls hl => ?_)
  refine lv_goto (tgt := 41) hx hb dX3_init_69 (by decide) ?_
  refine lv_iload_n hx hb dX3_init_41 rfl (lv_at hl 0 rfl) ?_
  refine lv_bipush (v := 6) hx hb dX3_init_42 (by decide) ?_
  refine lv_icmp_ge (tgt := 72) hx hb dX3_init_44 (by decide) (fun c9_ => absurd c9_ (by decide)) (fun _ => ?_)
  refine lv_aload_n hx hb dX3_init_47 rfl (lv_at hl 1 rfl) ?_
  refine va_get (D := (dC, dI)) (ci := 3) (v := .ref q1_) (C := RX3) (T := TX3) (N := 10) hx hb hts i_X3_init_X3 hown hK hP 0 rfl rfl 2 (by decide) (hts _ m_X3_init_4) (fun _ h9 => h9) rfl dX3_init_48 ?_
  refine lv_iload_n hx hb dX3_init_51 rfl (lv_at hl 0 rfl) ?_
  refine va_new (ci := 0) (fs := [.int 0, .int 0, .int 0, .int 0, .int 0, .int 0, .int 0, .null, .null, .null, .null, .null, .null]) (C := RX0) (T := TX0) (N := 13) hx hb hts i_X3_init_X0 tyX0 tyX0_ok hown (hts _ m_X3_init_3) (hts _ m_X3_init_10) (hts _ m_X3_init_11) hK hP hD hS hA rfl tfX0 (Nat.le_of_ble_eq_true rfl) (Nat.le_of_ble_eq_true rfl) dX3_init_52 (fun q10_ H hP hD hS => ?_)
  have hP : va_P (dC, dI) vwCl [(h, .inr (3, [.ref tr, .ref nw, .ref q1_, .int 0, .int 0, .int 0, .int 0, .ref q2_, .ref q3_, .int 0])), (tr, .inr (10, [.ref ns, .ref nw])), (ns, .inl (cy 1, 32, .inr (.inr (.inr (.inr (va_up gf 0 (some nd))))))), (q1_, .inl (cy 3, 6, .inr (.inr (.inr (.inr (va_up (va_up (va_up (fun _ => none) 0 (some q4_)) 1 (some q6_)) 2 (some q8_))))))), (q2_, .inl (cy 0, 15, .inl (fun _ => 0))), (q3_, .inl (cy 0, 15, .inl (fun _ => 0))), (q10_, .inr (0, [.int 0, .int 0, .int 0, .int 0, .int 0, .int 0, .int 0, .null, .null, .null, .null, .null, .null]))] H := hP
  have hD : va_D A [(h, .inr (3, [.ref tr, .ref nw, .ref q1_, .int 0, .int 0, .int 0, .int 0, .ref q2_, .ref q3_, .int 0])), (tr, .inr (10, [.ref ns, .ref nw])), (ns, .inl (cy 1, 32, .inr (.inr (.inr (.inr (va_up gf 0 (some nd))))))), (q1_, .inl (cy 3, 6, .inr (.inr (.inr (.inr (va_up (va_up (va_up (fun _ => none) 0 (some q4_)) 1 (some q6_)) 2 (some q8_))))))), (q2_, .inl (cy 0, 15, .inl (fun _ => 0))), (q3_, .inl (cy 0, 15, .inl (fun _ => 0))), (q10_, .inr (0, [.int 0, .int 0, .int 0, .int 0, .int 0, .int 0, .int 0, .null, .null, .null, .null, .null, .null]))] := hD
  refine lv_dup hx hb dX3_init_55 rfl ?_
  refine lv_aload_n hx hb dX3_init_56 rfl (lv_at hl 2 rfl) ?_
  refine va_get (D := (dC, dI)) (ci := 10) (v := .ref ns) (C := RX10) (T := TX10) (N := 2) hx hb hts i_X3_init_X10 hown hK hP 1 rfl rfl 0 (by decide) (hts _ m_X3_init_12) (fun _ h9 => h9) rfl dX3_init_57 ?_
  refine lv_iconst (v := 0) hx hb dX3_init_60 (by decide) ?_
  refine va_aldq hx hb hK hP 2 1 rfl rfl (show ¬ ((0 : Int32) < 0 ∨ 32 ≤ Int32.toNatClampNeg 0) by decide) dX3_init_61 ?_
  refine tk_v (.ref nd) (by rfl) ?_
  have hPc : va_P (dC, dI) vwCl ([(q10_, .inr (0, [.int 0, .int 0, .int 0, .int 0, .int 0, .int 0, .int 0, .null, .null, .null, .null, .null, .null]))]) _ := hP.sub [6] rfl
  have hDc := hD.sub (ws' := [(q10_, .inr (0, [.int 0, .int 0, .int 0, .int 0, .int 0, .int 0, .int 0, .null, .null, .null, .null, .null, .null]))]) [6] (by decide) rfl
  have hFc := va_free (wc := [(q10_, .inr (0, [.int 0, .int 0, .int 0, .int 0, .int 0, .int 0, .int 0, .null, .null, .null, .null, .null, .null]))]) hD hS hA [6] rfl
  refine va_callv (va_runI (As := [.ref nd]) (rest := [.ref q10_, .int 3, .ref q1_]) ⟨hx, hb, hml, hown, hts⟩ (c_X0_init l dC dI cy q10_ nd _) (cwI 1 hts g_X3_init_X0_init_38 rfl rfl rfl (hts _ m_X3_init_11) (hts _ m_X3_init_13) (hts _ m_X3_init_14) rfl (by decide +kernel) ⟨Nat.le_of_ble_eq_true rfl, Nat.le_of_ble_eq_true rfl⟩) (pS_ps hC hPc hDc) rfl rfl hl.1 rfl (lv_room (Nat.le_of_ble_eq_true rfl)) dX3_init_62 ⟨Nat.le_of_ble_eq_true rfl, Nat.le_of_ble_eq_true rfl⟩) hS (fun q _ h => hFc q h) hFc (fun u t_ H1 locs ht hvm hw hB hz1 hk1 hS => ?_)
  obtain ⟨u11_, rfl⟩ : ∃ z, z = u := ⟨_, rfl⟩
  obtain ⟨hP1, hD1⟩ := hB
  rw [ht] at hP1
  obtain ⟨hP, hD⟩ := va_join (wr := [(h, .inr (3, [.ref tr, .ref nw, .ref q1_, .int 0, .int 0, .int 0, .int 0, .ref q2_, .ref q3_, .int 0])), (tr, .inr (10, [.ref ns, .ref nw])), (ns, .inl (cy 1, 32, .inr (.inr (.inr (.inr (va_up gf 0 (some nd))))))), (q1_, .inl (cy 3, 6, .inr (.inr (.inr (.inr (va_up (va_up (va_up (fun _ => none) 0 (some q4_)) 1 (some q6_)) 2 (some q8_))))))), (q2_, .inl (cy 0, 15, .inl (fun _ => 0))), (q3_, .inl (cy 0, 15, .inl (fun _ => 0)))]) (w1 := [(q10_, .inr (0, [.int 0, .int 0, .int 0, .int 0, .int 0, .int 0, .int 0, .ref (u11_.1 0), .ref (u11_.1 1), .ref (u11_.1 2), .ref (u11_.1 3), .ref (u11_.1 4), .ref nd]))]) hP hD [6] [0, 1, 2, 3, 4, 5] rfl rfl (by decide) (by decide) hk1 hFc hP1 hD1
  generalize H1 = H at hP hS ⊢
  have hP : va_P (dC, dI) vwCl ([(h, .inr (3, [.ref tr, .ref nw, .ref q1_, .int 0, .int 0, .int 0, .int 0, .ref q2_, .ref q3_, .int 0])), (tr, .inr (10, [.ref ns, .ref nw])), (ns, .inl (cy 1, 32, .inr (.inr (.inr (.inr (va_up gf 0 (some nd))))))), (q1_, .inl (cy 3, 6, .inr (.inr (.inr (.inr (va_up (va_up (va_up (fun _ => none) 0 (some q4_)) 1 (some q6_)) 2 (some q8_))))))), (q2_, .inl (cy 0, 15, .inl (fun _ => 0))), (q3_, .inl (cy 0, 15, .inl (fun _ => 0))), (q10_, .inr (0, [.int 0, .int 0, .int 0, .int 0, .int 0, .int 0, .int 0, .ref (u11_.1 0), .ref (u11_.1 1), .ref (u11_.1 2), .ref (u11_.1 3), .ref (u11_.1 4), .ref nd]))]) H := hP
  have hD : va_D A ([(h, .inr (3, [.ref tr, .ref nw, .ref q1_, .int 0, .int 0, .int 0, .int 0, .ref q2_, .ref q3_, .int 0])), (tr, .inr (10, [.ref ns, .ref nw])), (ns, .inl (cy 1, 32, .inr (.inr (.inr (.inr (va_up gf 0 (some nd))))))), (q1_, .inl (cy 3, 6, .inr (.inr (.inr (.inr (va_up (va_up (va_up (fun _ => none) 0 (some q4_)) 1 (some q6_)) 2 (some q8_))))))), (q2_, .inl (cy 0, 15, .inl (fun _ => 0))), (q3_, .inl (cy 0, 15, .inl (fun _ => 0))), (q10_, .inr (0, [.int 0, .int 0, .int 0, .int 0, .int 0, .int 0, .int 0, .ref (u11_.1 0), .ref (u11_.1 1), .ref (u11_.1 2), .ref (u11_.1 3), .ref (u11_.1 4), .ref nd]))]) := hD
  refine va_astq hx hb hK hP hD hS 3 3 6 0 rfl rfl rfl rfl (show ¬ ((3 : Int32) < 0 ∨ 6 ≤ Int32.toNatClampNeg 3) by decide) dX3_init_65 (fun H locs hP hD hS => ?_)
  have hP : va_P (dC, dI) vwCl [(h, .inr (3, [.ref tr, .ref nw, .ref q1_, .int 0, .int 0, .int 0, .int 0, .ref q2_, .ref q3_, .int 0])), (tr, .inr (10, [.ref ns, .ref nw])), (ns, .inl (cy 1, 32, .inr (.inr (.inr (.inr (va_up gf 0 (some nd))))))), (q1_, .inl (cy 3, 6, .inr (.inr (.inr (.inr (va_up (va_up (va_up (va_up (fun _ => none) 0 (some q4_)) 1 (some q6_)) 2 (some q8_)) 3 (some q10_))))))), (q2_, .inl (cy 0, 15, .inl (fun _ => 0))), (q3_, .inl (cy 0, 15, .inl (fun _ => 0))), (q10_, .inr (0, [.int 0, .int 0, .int 0, .int 0, .int 0, .int 0, .int 0, .ref (u11_.1 0), .ref (u11_.1 1), .ref (u11_.1 2), .ref (u11_.1 3), .ref (u11_.1 4), .ref nd]))] H := hP
  have hD : va_D A [(h, .inr (3, [.ref tr, .ref nw, .ref q1_, .int 0, .int 0, .int 0, .int 0, .ref q2_, .ref q3_, .int 0])), (tr, .inr (10, [.ref ns, .ref nw])), (ns, .inl (cy 1, 32, .inr (.inr (.inr (.inr (va_up gf 0 (some nd))))))), (q1_, .inl (cy 3, 6, .inr (.inr (.inr (.inr (va_up (va_up (va_up (va_up (fun _ => none) 0 (some q4_)) 1 (some q6_)) 2 (some q8_)) 3 (some q10_))))))), (q2_, .inl (cy 0, 15, .inl (fun _ => 0))), (q3_, .inl (cy 0, 15, .inl (fun _ => 0))), (q10_, .inr (0, [.int 0, .int 0, .int 0, .int 0, .int 0, .int 0, .int 0, .ref (u11_.1 0), .ref (u11_.1 1), .ref (u11_.1 2), .ref (u11_.1 3), .ref (u11_.1 4), .ref nd]))] := hD
  have hP := hP.sub (ws' := [(h, .inr (3, [.ref tr, .ref nw, .ref q1_, .int 0, .int 0, .int 0, .int 0, .ref q2_, .ref q3_, .int 0])), (tr, .inr (10, [.ref ns, .ref nw])), (ns, .inl (cy 1, 32, .inr (.inr (.inr (.inr (va_up gf 0 (some nd))))))), (q1_, .inl (cy 3, 6, .inr (.inr (.inr (.inr (va_up (va_up (va_up (va_up (fun _ => none) 0 (some q4_)) 1 (some q6_)) 2 (some q8_)) 3 (some q10_))))))), (q2_, .inl (cy 0, 15, .inl (fun _ => 0))), (q3_, .inl (cy 0, 15, .inl (fun _ => 0)))]) [0, 1, 2, 3, 4, 5] rfl
  have hD := hD.sub (ws' := [(h, .inr (3, [.ref tr, .ref nw, .ref q1_, .int 0, .int 0, .int 0, .int 0, .ref q2_, .ref q3_, .int 0])), (tr, .inr (10, [.ref ns, .ref nw])), (ns, .inl (cy 1, 32, .inr (.inr (.inr (.inr (va_up gf 0 (some nd))))))), (q1_, .inl (cy 3, 6, .inr (.inr (.inr (.inr (va_up (va_up (va_up (va_up (fun _ => none) 0 (some q4_)) 1 (some q6_)) 2 (some q8_)) 3 (some q10_))))))), (q2_, .inl (cy 0, 15, .inl (fun _ => 0))), (q3_, .inl (cy 0, 15, .inl (fun _ => 0)))]) [0, 1, 2, 3, 4, 5] (by decide) rfl
  refine lv_iinc (v := 4) (lv' := [(3, .int 4), (0, .ref h), (1, .ref tr), (2, .ref nw)]) hx hb dX3_init_66 hl (k := 0) rfl (by decide) (by decide) rfl (fun ls hl => ?_)
  refine lv_goto (tgt := 41) hx hb dX3_init_69 (by decide) ?_
  refine lv_iload_n hx hb dX3_init_41 rfl (lv_at hl 0 rfl) ?_
  refine lv_bipush (v := 6) hx hb dX3_init_42 (by decide) ?_
  refine lv_icmp_ge (tgt := 72) hx hb dX3_init_44 (by decide) (fun c9_ => absurd c9_ (by decide)) (fun _ => ?_)
  refine lv_aload_n hx hb dX3_init_47 rfl (lv_at hl 1 rfl) ?_
  refine va_get (D := (dC, dI)) (ci := 3) (v := .ref q1_) (C := RX3) (T := TX3) (N := 10) hx hb hts i_X3_init_X3 hown hK hP 0 rfl rfl 2 (by decide) (hts _ m_X3_init_4) (fun _ h9 => h9) rfl dX3_init_48 ?_
  refine lv_iload_n hx hb dX3_init_51 rfl (lv_at hl 0 rfl) ?_
  refine va_new (ci := 0) (fs := [.int 0, .int 0, .int 0, .int 0, .int 0, .int 0, .int 0, .null, .null, .null, .null, .null, .null]) (C := RX0) (T := TX0) (N := 13) hx hb hts i_X3_init_X0 tyX0 tyX0_ok hown (hts _ m_X3_init_3) (hts _ m_X3_init_10) (hts _ m_X3_init_11) hK hP hD hS hA rfl tfX0 (Nat.le_of_ble_eq_true rfl) (Nat.le_of_ble_eq_true rfl) dX3_init_52 (fun q12_ H hP hD hS => ?_)
  have hP : va_P (dC, dI) vwCl [(h, .inr (3, [.ref tr, .ref nw, .ref q1_, .int 0, .int 0, .int 0, .int 0, .ref q2_, .ref q3_, .int 0])), (tr, .inr (10, [.ref ns, .ref nw])), (ns, .inl (cy 1, 32, .inr (.inr (.inr (.inr (va_up gf 0 (some nd))))))), (q1_, .inl (cy 3, 6, .inr (.inr (.inr (.inr (va_up (va_up (va_up (va_up (fun _ => none) 0 (some q4_)) 1 (some q6_)) 2 (some q8_)) 3 (some q10_))))))), (q2_, .inl (cy 0, 15, .inl (fun _ => 0))), (q3_, .inl (cy 0, 15, .inl (fun _ => 0))), (q12_, .inr (0, [.int 0, .int 0, .int 0, .int 0, .int 0, .int 0, .int 0, .null, .null, .null, .null, .null, .null]))] H := hP
  have hD : va_D A [(h, .inr (3, [.ref tr, .ref nw, .ref q1_, .int 0, .int 0, .int 0, .int 0, .ref q2_, .ref q3_, .int 0])), (tr, .inr (10, [.ref ns, .ref nw])), (ns, .inl (cy 1, 32, .inr (.inr (.inr (.inr (va_up gf 0 (some nd))))))), (q1_, .inl (cy 3, 6, .inr (.inr (.inr (.inr (va_up (va_up (va_up (va_up (fun _ => none) 0 (some q4_)) 1 (some q6_)) 2 (some q8_)) 3 (some q10_))))))), (q2_, .inl (cy 0, 15, .inl (fun _ => 0))), (q3_, .inl (cy 0, 15, .inl (fun _ => 0))), (q12_, .inr (0, [.int 0, .int 0, .int 0, .int 0, .int 0, .int 0, .int 0, .null, .null, .null, .null, .null, .null]))] := hD
  refine lv_dup hx hb dX3_init_55 rfl ?_
  refine lv_aload_n hx hb dX3_init_56 rfl (lv_at hl 2 rfl) ?_
  refine va_get (D := (dC, dI)) (ci := 10) (v := .ref ns) (C := RX10) (T := TX10) (N := 2) hx hb hts i_X3_init_X10 hown hK hP 1 rfl rfl 0 (by decide) (hts _ m_X3_init_12) (fun _ h9 => h9) rfl dX3_init_57 ?_
  refine lv_iconst (v := 0) hx hb dX3_init_60 (by decide) ?_
  refine va_aldq hx hb hK hP 2 1 rfl rfl (show ¬ ((0 : Int32) < 0 ∨ 32 ≤ Int32.toNatClampNeg 0) by decide) dX3_init_61 ?_
  refine tk_v (.ref nd) (by rfl) ?_
  have hPc : va_P (dC, dI) vwCl ([(q12_, .inr (0, [.int 0, .int 0, .int 0, .int 0, .int 0, .int 0, .int 0, .null, .null, .null, .null, .null, .null]))]) _ := hP.sub [6] rfl
  have hDc := hD.sub (ws' := [(q12_, .inr (0, [.int 0, .int 0, .int 0, .int 0, .int 0, .int 0, .int 0, .null, .null, .null, .null, .null, .null]))]) [6] (by decide) rfl
  have hFc := va_free (wc := [(q12_, .inr (0, [.int 0, .int 0, .int 0, .int 0, .int 0, .int 0, .int 0, .null, .null, .null, .null, .null, .null]))]) hD hS hA [6] rfl
  refine va_callv (va_runI (As := [.ref nd]) (rest := [.ref q12_, .int 4, .ref q1_]) ⟨hx, hb, hml, hown, hts⟩ (c_X0_init l dC dI cy q12_ nd _) (cwI 1 hts g_X3_init_X0_init_38 rfl rfl rfl (hts _ m_X3_init_11) (hts _ m_X3_init_13) (hts _ m_X3_init_14) rfl (by decide +kernel) ⟨Nat.le_of_ble_eq_true rfl, Nat.le_of_ble_eq_true rfl⟩) (pS_ps hC hPc hDc) rfl rfl hl.1 rfl (lv_room (Nat.le_of_ble_eq_true rfl)) dX3_init_62 ⟨Nat.le_of_ble_eq_true rfl, Nat.le_of_ble_eq_true rfl⟩) hS (fun q _ h => hFc q h) hFc (fun u t_ H1 locs ht hvm hw hB hz1 hk1 hS => ?_)
  obtain ⟨u13_, rfl⟩ : ∃ z, z = u := ⟨_, rfl⟩
  obtain ⟨hP1, hD1⟩ := hB
  rw [ht] at hP1
  obtain ⟨hP, hD⟩ := va_join (wr := [(h, .inr (3, [.ref tr, .ref nw, .ref q1_, .int 0, .int 0, .int 0, .int 0, .ref q2_, .ref q3_, .int 0])), (tr, .inr (10, [.ref ns, .ref nw])), (ns, .inl (cy 1, 32, .inr (.inr (.inr (.inr (va_up gf 0 (some nd))))))), (q1_, .inl (cy 3, 6, .inr (.inr (.inr (.inr (va_up (va_up (va_up (va_up (fun _ => none) 0 (some q4_)) 1 (some q6_)) 2 (some q8_)) 3 (some q10_))))))), (q2_, .inl (cy 0, 15, .inl (fun _ => 0))), (q3_, .inl (cy 0, 15, .inl (fun _ => 0)))]) (w1 := [(q12_, .inr (0, [.int 0, .int 0, .int 0, .int 0, .int 0, .int 0, .int 0, .ref (u13_.1 0), .ref (u13_.1 1), .ref (u13_.1 2), .ref (u13_.1 3), .ref (u13_.1 4), .ref nd]))]) hP hD [6] [0, 1, 2, 3, 4, 5] rfl rfl (by decide) (by decide) hk1 hFc hP1 hD1
  generalize H1 = H at hP hS ⊢
  have hP : va_P (dC, dI) vwCl ([(h, .inr (3, [.ref tr, .ref nw, .ref q1_, .int 0, .int 0, .int 0, .int 0, .ref q2_, .ref q3_, .int 0])), (tr, .inr (10, [.ref ns, .ref nw])), (ns, .inl (cy 1, 32, .inr (.inr (.inr (.inr (va_up gf 0 (some nd))))))), (q1_, .inl (cy 3, 6, .inr (.inr (.inr (.inr (va_up (va_up (va_up (va_up (fun _ => none) 0 (some q4_)) 1 (some q6_)) 2 (some q8_)) 3 (some q10_))))))), (q2_, .inl (cy 0, 15, .inl (fun _ => 0))), (q3_, .inl (cy 0, 15, .inl (fun _ => 0))), (q12_, .inr (0, [.int 0, .int 0, .int 0, .int 0, .int 0, .int 0, .int 0, .ref (u13_.1 0), .ref (u13_.1 1), .ref (u13_.1 2), .ref (u13_.1 3), .ref (u13_.1 4), .ref nd]))]) H := hP
  have hD : va_D A ([(h, .inr (3, [.ref tr, .ref nw, .ref q1_, .int 0, .int 0, .int 0, .int 0, .ref q2_, .ref q3_, .int 0])), (tr, .inr (10, [.ref ns, .ref nw])), (ns, .inl (cy 1, 32, .inr (.inr (.inr (.inr (va_up gf 0 (some nd))))))), (q1_, .inl (cy 3, 6, .inr (.inr (.inr (.inr (va_up (va_up (va_up (va_up (fun _ => none) 0 (some q4_)) 1 (some q6_)) 2 (some q8_)) 3 (some q10_))))))), (q2_, .inl (cy 0, 15, .inl (fun _ => 0))), (q3_, .inl (cy 0, 15, .inl (fun _ => 0))), (q12_, .inr (0, [.int 0, .int 0, .int 0, .int 0, .int 0, .int 0, .int 0, .ref (u13_.1 0), .ref (u13_.1 1), .ref (u13_.1 2), .ref (u13_.1 3), .ref (u13_.1 4), .ref nd]))]) := hD
  refine va_astq hx hb hK hP hD hS 3 3 6 0 rfl rfl rfl rfl (show ¬ ((4 : Int32) < 0 ∨ 6 ≤ Int32.toNatClampNeg 4) by decide) dX3_init_65 (fun H locs hP hD hS => ?_)
  have hP : va_P (dC, dI) vwCl [(h, .inr (3, [.ref tr, .ref nw, .ref q1_, .int 0, .int 0, .int 0, .int 0, .ref q2_, .ref q3_, .int 0])), (tr, .inr (10, [.ref ns, .ref nw])), (ns, .inl (cy 1, 32, .inr (.inr (.inr (.inr (va_up gf 0 (some nd))))))), (q1_, .inl (cy 3, 6, .inr (.inr (.inr (.inr (va_up (va_up (va_up (va_up (va_up (fun _ => none) 0 (some q4_)) 1 (some q6_)) 2 (some q8_)) 3 (some q10_)) 4 (some q12_))))))), (q2_, .inl (cy 0, 15, .inl (fun _ => 0))), (q3_, .inl (cy 0, 15, .inl (fun _ => 0))), (q12_, .inr (0, [.int 0, .int 0, .int 0, .int 0, .int 0, .int 0, .int 0, .ref (u13_.1 0), .ref (u13_.1 1), .ref (u13_.1 2), .ref (u13_.1 3), .ref (u13_.1 4), .ref nd]))] H := hP
  have hD : va_D A [(h, .inr (3, [.ref tr, .ref nw, .ref q1_, .int 0, .int 0, .int 0, .int 0, .ref q2_, .ref q3_, .int 0])), (tr, .inr (10, [.ref ns, .ref nw])), (ns, .inl (cy 1, 32, .inr (.inr (.inr (.inr (va_up gf 0 (some nd))))))), (q1_, .inl (cy 3, 6, .inr (.inr (.inr (.inr (va_up (va_up (va_up (va_up (va_up (fun _ => none) 0 (some q4_)) 1 (some q6_)) 2 (some q8_)) 3 (some q10_)) 4 (some q12_))))))), (q2_, .inl (cy 0, 15, .inl (fun _ => 0))), (q3_, .inl (cy 0, 15, .inl (fun _ => 0))), (q12_, .inr (0, [.int 0, .int 0, .int 0, .int 0, .int 0, .int 0, .int 0, .ref (u13_.1 0), .ref (u13_.1 1), .ref (u13_.1 2), .ref (u13_.1 3), .ref (u13_.1 4), .ref nd]))] := hD
  have hP := hP.sub (ws' := [(h, .inr (3, [.ref tr, .ref nw, .ref q1_, .int 0, .int 0, .int 0, .int 0, .ref q2_, .ref q3_, .int 0])), (tr, .inr (10, [.ref ns, .ref nw])), (ns, .inl (cy 1, 32, .inr (.inr (.inr (.inr (va_up gf 0 (some nd))))))), (q1_, .inl (cy 3, 6, .inr (.inr (.inr (.inr (va_up (va_up (va_up (va_up (va_up (fun _ => none) 0 (some q4_)) 1 (some q6_)) 2 (some q8_)) 3 (some q10_)) 4 (some q12_))))))), (q2_, .inl (cy 0, 15, .inl (fun _ => 0))), (q3_, .inl (cy 0, 15, .inl (fun _ => 0)))]) [0, 1, 2, 3, 4, 5] rfl
  have hD := hD.sub (ws' := [(h, .inr (3, [.ref tr, .ref nw, .ref q1_, .int 0, .int 0, .int 0, .int 0, .ref q2_, .ref q3_, .int 0])), (tr, .inr (10, [.ref ns, .ref nw])), (ns, .inl (cy 1, 32, .inr (.inr (.inr (.inr (va_up gf 0 (some nd))))))), (q1_, .inl (cy 3, 6, .inr (.inr (.inr (.inr (va_up (va_up (va_up (va_up (va_up (fun _ => none) 0 (some q4_)) 1 (some q6_)) 2 (some q8_)) 3 (some q10_)) 4 (some q12_))))))), (q2_, .inl (cy 0, 15, .inl (fun _ => 0))), (q3_, .inl (cy 0, 15, .inl (fun _ => 0)))]) [0, 1, 2, 3, 4, 5] (by decide) rfl
  refine lv_iinc (v := 5) (lv' := [(3, .int 5), (0, .ref h), (1, .ref tr), (2, .ref nw)]) hx hb dX3_init_66 hl (k := 0) rfl (by decide) (by decide) rfl (fun ls hl => ?_)
  refine lv_goto (tgt := 41) hx hb dX3_init_69 (by decide) ?_
  refine lv_iload_n hx hb dX3_init_41 rfl (lv_at hl 0 rfl) ?_
  refine lv_bipush (v := 6) hx hb dX3_init_42 (by decide) ?_
  refine lv_icmp_ge (tgt := 72) hx hb dX3_init_44 (by decide) (fun c9_ => absurd c9_ (by decide)) (fun _ => ?_)
  refine lv_aload_n hx hb dX3_init_47 rfl (lv_at hl 1 rfl) ?_
  refine va_get (D := (dC, dI)) (ci := 3) (v := .ref q1_) (C := RX3) (T := TX3) (N := 10) hx hb hts i_X3_init_X3 hown hK hP 0 rfl rfl 2 (by decide) (hts _ m_X3_init_4) (fun _ h9 => h9) rfl dX3_init_48 ?_
  refine lv_iload_n hx hb dX3_init_51 rfl (lv_at hl 0 rfl) ?_
  refine va_new (ci := 0) (fs := [.int 0, .int 0, .int 0, .int 0, .int 0, .int 0, .int 0, .null, .null, .null, .null, .null, .null]) (C := RX0) (T := TX0) (N := 13) hx hb hts i_X3_init_X0 tyX0 tyX0_ok hown (hts _ m_X3_init_3) (hts _ m_X3_init_10) (hts _ m_X3_init_11) hK hP hD hS hA rfl tfX0 (Nat.le_of_ble_eq_true rfl) (Nat.le_of_ble_eq_true rfl) dX3_init_52 (fun q14_ H hP hD hS => ?_)
  have hP : va_P (dC, dI) vwCl [(h, .inr (3, [.ref tr, .ref nw, .ref q1_, .int 0, .int 0, .int 0, .int 0, .ref q2_, .ref q3_, .int 0])), (tr, .inr (10, [.ref ns, .ref nw])), (ns, .inl (cy 1, 32, .inr (.inr (.inr (.inr (va_up gf 0 (some nd))))))), (q1_, .inl (cy 3, 6, .inr (.inr (.inr (.inr (va_up (va_up (va_up (va_up (va_up (fun _ => none) 0 (some q4_)) 1 (some q6_)) 2 (some q8_)) 3 (some q10_)) 4 (some q12_))))))), (q2_, .inl (cy 0, 15, .inl (fun _ => 0))), (q3_, .inl (cy 0, 15, .inl (fun _ => 0))), (q14_, .inr (0, [.int 0, .int 0, .int 0, .int 0, .int 0, .int 0, .int 0, .null, .null, .null, .null, .null, .null]))] H := hP
  have hD : va_D A [(h, .inr (3, [.ref tr, .ref nw, .ref q1_, .int 0, .int 0, .int 0, .int 0, .ref q2_, .ref q3_, .int 0])), (tr, .inr (10, [.ref ns, .ref nw])), (ns, .inl (cy 1, 32, .inr (.inr (.inr (.inr (va_up gf 0 (some nd))))))), (q1_, .inl (cy 3, 6, .inr (.inr (.inr (.inr (va_up (va_up (va_up (va_up (va_up (fun _ => none) 0 (some q4_)) 1 (some q6_)) 2 (some q8_)) 3 (some q10_)) 4 (some q12_))))))), (q2_, .inl (cy 0, 15, .inl (fun _ => 0))), (q3_, .inl (cy 0, 15, .inl (fun _ => 0))), (q14_, .inr (0, [.int 0, .int 0, .int 0, .int 0, .int 0, .int 0, .int 0, .null, .null, .null, .null, .null, .null]))] := hD
  refine lv_dup hx hb dX3_init_55 rfl ?_
  refine lv_aload_n hx hb dX3_init_56 rfl (lv_at hl 2 rfl) ?_
  refine va_get (D := (dC, dI)) (ci := 10) (v := .ref ns) (C := RX10) (T := TX10) (N := 2) hx hb hts i_X3_init_X10 hown hK hP 1 rfl rfl 0 (by decide) (hts _ m_X3_init_12) (fun _ h9 => h9) rfl dX3_init_57 ?_
  refine lv_iconst (v := 0) hx hb dX3_init_60 (by decide) ?_
  refine va_aldq hx hb hK hP 2 1 rfl rfl (show ¬ ((0 : Int32) < 0 ∨ 32 ≤ Int32.toNatClampNeg 0) by decide) dX3_init_61 ?_
  refine tk_v (.ref nd) (by rfl) ?_
  have hPc : va_P (dC, dI) vwCl ([(q14_, .inr (0, [.int 0, .int 0, .int 0, .int 0, .int 0, .int 0, .int 0, .null, .null, .null, .null, .null, .null]))]) _ := hP.sub [6] rfl
  have hDc := hD.sub (ws' := [(q14_, .inr (0, [.int 0, .int 0, .int 0, .int 0, .int 0, .int 0, .int 0, .null, .null, .null, .null, .null, .null]))]) [6] (by decide) rfl
  have hFc := va_free (wc := [(q14_, .inr (0, [.int 0, .int 0, .int 0, .int 0, .int 0, .int 0, .int 0, .null, .null, .null, .null, .null, .null]))]) hD hS hA [6] rfl
  refine va_callv (va_runI (As := [.ref nd]) (rest := [.ref q14_, .int 5, .ref q1_]) ⟨hx, hb, hml, hown, hts⟩ (c_X0_init l dC dI cy q14_ nd _) (cwI 1 hts g_X3_init_X0_init_38 rfl rfl rfl (hts _ m_X3_init_11) (hts _ m_X3_init_13) (hts _ m_X3_init_14) rfl (by decide +kernel) ⟨Nat.le_of_ble_eq_true rfl, Nat.le_of_ble_eq_true rfl⟩) (pS_ps hC hPc hDc) rfl rfl hl.1 rfl (lv_room (Nat.le_of_ble_eq_true rfl)) dX3_init_62 ⟨Nat.le_of_ble_eq_true rfl, Nat.le_of_ble_eq_true rfl⟩) hS (fun q _ h => hFc q h) hFc (fun u t_ H1 locs ht hvm hw hB hz1 hk1 hS => ?_)
  obtain ⟨u15_, rfl⟩ : ∃ z, z = u := ⟨_, rfl⟩
  obtain ⟨hP1, hD1⟩ := hB
  rw [ht] at hP1
  obtain ⟨hP, hD⟩ := va_join (wr := [(h, .inr (3, [.ref tr, .ref nw, .ref q1_, .int 0, .int 0, .int 0, .int 0, .ref q2_, .ref q3_, .int 0])), (tr, .inr (10, [.ref ns, .ref nw])), (ns, .inl (cy 1, 32, .inr (.inr (.inr (.inr (va_up gf 0 (some nd))))))), (q1_, .inl (cy 3, 6, .inr (.inr (.inr (.inr (va_up (va_up (va_up (va_up (va_up (fun _ => none) 0 (some q4_)) 1 (some q6_)) 2 (some q8_)) 3 (some q10_)) 4 (some q12_))))))), (q2_, .inl (cy 0, 15, .inl (fun _ => 0))), (q3_, .inl (cy 0, 15, .inl (fun _ => 0)))]) (w1 := [(q14_, .inr (0, [.int 0, .int 0, .int 0, .int 0, .int 0, .int 0, .int 0, .ref (u15_.1 0), .ref (u15_.1 1), .ref (u15_.1 2), .ref (u15_.1 3), .ref (u15_.1 4), .ref nd]))]) hP hD [6] [0, 1, 2, 3, 4, 5] rfl rfl (by decide) (by decide) hk1 hFc hP1 hD1
  generalize H1 = H at hP hS ⊢
  have hP : va_P (dC, dI) vwCl ([(h, .inr (3, [.ref tr, .ref nw, .ref q1_, .int 0, .int 0, .int 0, .int 0, .ref q2_, .ref q3_, .int 0])), (tr, .inr (10, [.ref ns, .ref nw])), (ns, .inl (cy 1, 32, .inr (.inr (.inr (.inr (va_up gf 0 (some nd))))))), (q1_, .inl (cy 3, 6, .inr (.inr (.inr (.inr (va_up (va_up (va_up (va_up (va_up (fun _ => none) 0 (some q4_)) 1 (some q6_)) 2 (some q8_)) 3 (some q10_)) 4 (some q12_))))))), (q2_, .inl (cy 0, 15, .inl (fun _ => 0))), (q3_, .inl (cy 0, 15, .inl (fun _ => 0))), (q14_, .inr (0, [.int 0, .int 0, .int 0, .int 0, .int 0, .int 0, .int 0, .ref (u15_.1 0), .ref (u15_.1 1), .ref (u15_.1 2), .ref (u15_.1 3), .ref (u15_.1 4), .ref nd]))]) H := hP
  have hD : va_D A ([(h, .inr (3, [.ref tr, .ref nw, .ref q1_, .int 0, .int 0, .int 0, .int 0, .ref q2_, .ref q3_, .int 0])), (tr, .inr (10, [.ref ns, .ref nw])), (ns, .inl (cy 1, 32, .inr (.inr (.inr (.inr (va_up gf 0 (some nd))))))), (q1_, .inl (cy 3, 6, .inr (.inr (.inr (.inr (va_up (va_up (va_up (va_up (va_up (fun _ => none) 0 (some q4_)) 1 (some q6_)) 2 (some q8_)) 3 (some q10_)) 4 (some q12_))))))), (q2_, .inl (cy 0, 15, .inl (fun _ => 0))), (q3_, .inl (cy 0, 15, .inl (fun _ => 0))), (q14_, .inr (0, [.int 0, .int 0, .int 0, .int 0, .int 0, .int 0, .int 0, .ref (u15_.1 0), .ref (u15_.1 1), .ref (u15_.1 2), .ref (u15_.1 3), .ref (u15_.1 4), .ref nd]))]) := hD
  refine va_astq hx hb hK hP hD hS 3 3 6 0 rfl rfl rfl rfl (show ¬ ((5 : Int32) < 0 ∨ 6 ≤ Int32.toNatClampNeg 5) by decide) dX3_init_65 (fun H locs hP hD hS => ?_)
  have hP : va_P (dC, dI) vwCl [(h, .inr (3, [.ref tr, .ref nw, .ref q1_, .int 0, .int 0, .int 0, .int 0, .ref q2_, .ref q3_, .int 0])), (tr, .inr (10, [.ref ns, .ref nw])), (ns, .inl (cy 1, 32, .inr (.inr (.inr (.inr (va_up gf 0 (some nd))))))), (q1_, .inl (cy 3, 6, .inr (.inr (.inr (.inr (va_up (va_up (va_up (va_up (va_up (va_up (fun _ => none) 0 (some q4_)) 1 (some q6_)) 2 (some q8_)) 3 (some q10_)) 4 (some q12_)) 5 (some q14_))))))), (q2_, .inl (cy 0, 15, .inl (fun _ => 0))), (q3_, .inl (cy 0, 15, .inl (fun _ => 0))), (q14_, .inr (0, [.int 0, .int 0, .int 0, .int 0, .int 0, .int 0, .int 0, .ref (u15_.1 0), .ref (u15_.1 1), .ref (u15_.1 2), .ref (u15_.1 3), .ref (u15_.1 4), .ref nd]))] H := hP
  have hD : va_D A [(h, .inr (3, [.ref tr, .ref nw, .ref q1_, .int 0, .int 0, .int 0, .int 0, .ref q2_, .ref q3_, .int 0])), (tr, .inr (10, [.ref ns, .ref nw])), (ns, .inl (cy 1, 32, .inr (.inr (.inr (.inr (va_up gf 0 (some nd))))))), (q1_, .inl (cy 3, 6, .inr (.inr (.inr (.inr (va_up (va_up (va_up (va_up (va_up (va_up (fun _ => none) 0 (some q4_)) 1 (some q6_)) 2 (some q8_)) 3 (some q10_)) 4 (some q12_)) 5 (some q14_))))))), (q2_, .inl (cy 0, 15, .inl (fun _ => 0))), (q3_, .inl (cy 0, 15, .inl (fun _ => 0))), (q14_, .inr (0, [.int 0, .int 0, .int 0, .int 0, .int 0, .int 0, .int 0, .ref (u15_.1 0), .ref (u15_.1 1), .ref (u15_.1 2), .ref (u15_.1 3), .ref (u15_.1 4), .ref nd]))] := hD
  have hP := hP.sub (ws' := [(h, .inr (3, [.ref tr, .ref nw, .ref q1_, .int 0, .int 0, .int 0, .int 0, .ref q2_, .ref q3_, .int 0])), (tr, .inr (10, [.ref ns, .ref nw])), (ns, .inl (cy 1, 32, .inr (.inr (.inr (.inr (va_up gf 0 (some nd))))))), (q1_, .inl (cy 3, 6, .inr (.inr (.inr (.inr (va_up (va_up (va_up (va_up (va_up (va_up (fun _ => none) 0 (some q4_)) 1 (some q6_)) 2 (some q8_)) 3 (some q10_)) 4 (some q12_)) 5 (some q14_))))))), (q2_, .inl (cy 0, 15, .inl (fun _ => 0))), (q3_, .inl (cy 0, 15, .inl (fun _ => 0)))]) [0, 1, 2, 3, 4, 5] rfl
  have hD := hD.sub (ws' := [(h, .inr (3, [.ref tr, .ref nw, .ref q1_, .int 0, .int 0, .int 0, .int 0, .ref q2_, .ref q3_, .int 0])), (tr, .inr (10, [.ref ns, .ref nw])), (ns, .inl (cy 1, 32, .inr (.inr (.inr (.inr (va_up gf 0 (some nd))))))), (q1_, .inl (cy 3, 6, .inr (.inr (.inr (.inr (va_up (va_up (va_up (va_up (va_up (va_up (fun _ => none) 0 (some q4_)) 1 (some q6_)) 2 (some q8_)) 3 (some q10_)) 4 (some q12_)) 5 (some q14_))))))), (q2_, .inl (cy 0, 15, .inl (fun _ => 0))), (q3_, .inl (cy 0, 15, .inl (fun _ => 0)))]) [0, 1, 2, 3, 4, 5] (by decide) rfl
  refine lv_iinc (v := 6) (lv' := [(3, .int 6), (0, .ref h), (1, .ref tr), (2, .ref nw)]) hx hb dX3_init_66 hl (k := 0) rfl (by decide) (by decide) rfl (fun ls hl => ?_)
  refine lv_goto (tgt := 41) hx hb dX3_init_69 (by decide) ?_
  refine lv_iload_n hx hb dX3_init_41 rfl (lv_at hl 0 rfl) ?_
  refine lv_bipush (v := 6) hx hb dX3_init_42 (by decide) ?_
  refine lv_icmp_ge (tgt := 72) hx hb dX3_init_44 (by decide) (fun _ => ?_) (fun c9_ => absurd (by decide) c9_)
  have hP9 := hP.sub (ws' := [(h, .inr (3, [.ref tr, .ref nw, .ref q1_, .int 0, .int 0, .int 0, .int 0, .ref q2_, .ref q3_, .int 0])), (q2_, .inl (cy 0, 15, .inl (fun _ => 0))), (tr, .inr (10, [.ref ns, .ref nw])), (ns, .inl (cy 1, 32, .inr (.inr (.inr (.inr (va_up gf 0 (some nd)))))))]) [0, 4, 1, 2] rfl
  have hD9 := hD.sub (ws' := [(h, .inr (3, [.ref tr, .ref nw, .ref q1_, .int 0, .int 0, .int 0, .int 0, .ref q2_, .ref q3_, .int 0])), (q2_, .inl (cy 0, 15, .inl (fun _ => 0))), (tr, .inr (10, [.ref ns, .ref nw])), (ns, .inl (cy 1, 32, .inr (.inr (.inr (.inr (va_up gf 0 (some nd)))))))]) [0, 4, 1, 2] (by decide) rfl
  exact W.vret hx hb hr (fun t ht hW => ⟨⟨((fun k => [q1_, q2_, q3_].getD k 0, fun k => [].getD k (fun _ => 0), fun k => [].getD k (fun _ => none)) : uS), rfl, trivial, (by rw [ht]; exact hP9), hD9⟩, hS.F ht⟩) hS.2.2 dX3_init_72

theorem dX5_init_0 : decode cX5_init 0 = .ok (.aload_n 0, 1) := by decide +kernel
theorem dX5_init_1 : decode cX5_init 1 = .ok (.invokespecial 3, 3) := by decide +kernel
theorem dX5_init_4 : decode cX5_init 4 = .ok (.aload_n 0, 1) := by decide +kernel
theorem dX5_init_5 : decode cX5_init 5 = .ok (.bipush 6, 2) := by decide +kernel
theorem dX5_init_7 : decode cX5_init 7 = .ok (.newarray .int, 2) := by decide +kernel
theorem dX5_init_9 : decode cX5_init 9 = .ok (.putfield 9, 3) := by decide +kernel
theorem dX5_init_12 : decode cX5_init 12 = .ok (.aload_n 0, 1) := by decide +kernel
theorem dX5_init_13 : decode cX5_init 13 = .ok (.bipush 6, 2) := by decide +kernel
theorem dX5_init_15 : decode cX5_init 15 = .ok (.newarray .int, 2) := by decide +kernel
theorem dX5_init_17 : decode cX5_init 17 = .ok (.putfield 15, 3) := by decide +kernel
theorem dX5_init_20 : decode cX5_init 20 = .ok (.aload_n 0, 1) := by decide +kernel
theorem dX5_init_21 : decode cX5_init 21 = .ok (.aload_n 1, 1) := by decide +kernel
theorem dX5_init_22 : decode cX5_init 22 = .ok (.putfield 18, 3) := by decide +kernel
theorem dX5_init_25 : decode cX5_init 25 = .ok (.aload_n 0, 1) := by decide +kernel
theorem dX5_init_26 : decode cX5_init 26 = .ok (.aload_n 2, 1) := by decide +kernel
theorem dX5_init_27 : decode cX5_init 27 = .ok (.putfield 22, 3) := by decide +kernel
theorem dX5_init_30 : decode cX5_init 30 = .ok (.return_, 1) := by decide +kernel
def v_X5_init : List Cond := .code yX5_init cX5_init 3 none :: ([.methodLink RX5 3 objectInit, .instanceMethod objectInit, .code objectInit ⟨#[0xb1]⟩ 1 none, .arrayClass .int, .fieldLink RX5 9 "RestBoard$Powers" "fresh" "[I", .fieldLink RX5 15 "RestBoard$Powers" "remembered" "[I", .fieldLink RX5 18 "RestBoard$Powers" "tree" "LRestBoard$Tree;", .fieldLink RX5 22 "RestBoard$Powers" "now" "LRestBoard$State;"] ++ wsX50)
theorem m_X5_init_0 : (.methodLink RX5 3 objectInit : Cond) ∈ v_X5_init := List.mem_of_getElem? (i := 1) (by decide +kernel)
theorem m_X5_init_1 : (.instanceMethod objectInit : Cond) ∈ v_X5_init := List.mem_of_getElem? (i := 2) (by decide +kernel)
theorem m_X5_init_2 : (.code objectInit ⟨#[0xb1]⟩ 1 none : Cond) ∈ v_X5_init := List.mem_of_getElem? (i := 3) (by decide +kernel)
theorem m_X5_init_3 : (.arrayClass .int : Cond) ∈ v_X5_init := List.mem_of_getElem? (i := 4) (by decide +kernel)
theorem m_X5_init_4 : (.fieldLink RX5 9 "RestBoard$Powers" "fresh" "[I" : Cond) ∈ v_X5_init := List.mem_of_getElem? (i := 5) (by decide +kernel)
theorem m_X5_init_5 : (.fieldLink RX5 15 "RestBoard$Powers" "remembered" "[I" : Cond) ∈ v_X5_init := List.mem_of_getElem? (i := 6) (by decide +kernel)
theorem m_X5_init_6 : (.fieldLink RX5 18 "RestBoard$Powers" "tree" "LRestBoard$Tree;" : Cond) ∈ v_X5_init := List.mem_of_getElem? (i := 7) (by decide +kernel)
theorem m_X5_init_7 : (.fieldLink RX5 22 "RestBoard$Powers" "now" "LRestBoard$State;" : Cond) ∈ v_X5_init := List.mem_of_getElem? (i := 8) (by decide +kernel)
theorem i_X5_init_X5 : ∀ w ∈ u_ws RX5 TX5 4, w ∈ v_X5_init := fun w h => List.mem_cons_of_mem _ (List.mem_append_right _ h)
set_option maxHeartbeats 4000000 in
set_option maxRecDepth 100000 in
theorem c_X5_init (l : Launch) (dC : Nat → ClassId) (dI : Nat → Nat → Nat) (cy : Nat → ClassId) (h : Nat) (tr : Nat) (nw : Nat) (sz : Nat) : Met l yX5_init v_X5_init ({ frames := 1, cells := 2, slots := 12, locals := 12 }) (va_Pc [.ref h, .ref tr, .ref nw] (ps dC dI cy ([(h, .inr (5, [.null, .null, .null, .null]))]) sz)) (va_Qv (fun (_ : uS) => True) (fun (u : uS) (t : State) => va_P (dC, dI) vwCl ([(h, .inr (5, [.ref tr, .ref nw, .ref (u.1 0), .ref (u.1 1)]))]) t.heap ∧ va_D (va_A ([(h, .inr (5, [.null, .null, .null, .null]))]) sz) ([(h, .inr (5, [.ref tr, .ref nw, .ref (u.1 0), .ref (u.1 1)]))])) (va_A ([(h, .inr (5, [.null, .null, .null, .null]))]) sz)) 2 12 (va_A ([(h, .inr (5, [.null, .null, .null, .null]))]) sz) := by
  refine Met.ofW (cc := cX5_init) (maxL := 3) (ret := none) (by decide) rfl ?_
  intro p e s m args below meth c s₁ B hml hv
  obtain ⟨rfl, hsz, hP, hC, hD0⟩ := hv
  have hK := hC.1
  have hx := B.exec
  have hb := B.bytes
  have hr := B.returns
  have hts := atoms_spec (ws := v_X5_init) B.pre
  have hown : s.vm.findClass RX5 = some m.cls := findClass_of_methodNamed B.named
  have hlocks := B.notSynchronized
  have hin : meth.name = "<init>" := (name_of_methodNamed B.named B.method).1
  subst hsz
  have hD := hD0.self (sz := s.heap.size)
  generalize hAe : va_A ([(h, .inr (5, [.null, .null, .null, .null]))]) s.heap.size = A at hD ⊢
  have hA : ∀ q : Nat, s.heap.size ≤ q → A q := fun q h => by rw [← hAe]; exact Or.inr h
  have hS : va_S A s.heap s.heap [] := va_S.rf
  have hl := lv_entry ([.ref h, .ref tr, .ref nw]) (n := 3) (Nat.le_of_ble_eq_true rfl)
  rw [lg_entry_eq]
  generalize (lg_sl ([.ref h, .ref tr, .ref nw]) ++ List.replicate (3 - (lg_sl ([.ref h, .ref tr, .ref nw])).length) Slot.unset).toArray = ls at hl ⊢
  have hl : lv_has ls 3 [(0, .ref h), (1, .ref tr), (2, .ref nw)] := hl
  refine lv_aload_n hx hb dX5_init_0 rfl (lv_at hl 0 rfl) ?_
  refine W.objInit hx hb hown (hts _ m_X5_init_0) (hts _ m_X5_init_1) (hts _ m_X5_init_2) rfl (by rw [hml]; exact hl.1) rfl dX5_init_1 (Nat.le_of_ble_eq_true rfl) (Nat.le_of_ble_eq_true rfl) ?_
  refine W.eq (g2 := F0 m 4 ls []) rfl ?_
  refine lv_aload_n hx hb dX5_init_4 rfl (lv_at hl 0 rfl) ?_
  refine lv_bipush (v := 6) hx hb dX5_init_5 (by decide) ?_
  refine va_newa (atype := .int) (N' := 6) (a0 := (6, .inl (fun _ => 0))) hx hb (hts _ m_X5_init_3) rfl hK hP hD hS hA (fun _ => rfl) (by decide) (by decide) (by decide) (Nat.le_of_ble_eq_true rfl) (Nat.le_of_ble_eq_true rfl) dX5_init_7 (fun q1_ cA_ H hKn hP hD hS => ?_)
  obtain rfl := va_K.oneI hKn
  have hP : va_P (dC, dI) vwCl [(h, .inr (5, [.null, .null, .null, .null])), (q1_, .inl (cy 0, 6, .inl (fun _ => 0)))] H := hP
  have hD : va_D A [(h, .inr (5, [.null, .null, .null, .null])), (q1_, .inl (cy 0, 6, .inl (fun _ => 0)))] := hD
  refine va_putF (D := (dC, dI)) (ci := 5) (v := .ref q1_) (ty := .array .int) (C := RX5) (T := TX5) (N := 4) hx hb hts i_X5_init_X5 tyX5 tyX5_ok nmX5 hown hK hP hD hS 0 rfl rfl 2 (by decide) (hts _ m_X5_init_4) (fun _ h9 => h9) rfl hin rfl (by decide +kernel) rfl rfl (Nat.le_of_ble_eq_true rfl) dX5_init_9 (fun H locs hP hD hS => ?_)
  have hP : va_P (dC, dI) vwCl [(h, .inr (5, [.null, .null, .ref q1_, .null])), (q1_, .inl (cy 0, 6, .inl (fun _ => 0)))] H := hP
  have hD : va_D A [(h, .inr (5, [.null, .null, .ref q1_, .null])), (q1_, .inl (cy 0, 6, .inl (fun _ => 0)))] := hD
  refine lv_aload_n hx hb dX5_init_12 rfl (lv_at hl 0 rfl) ?_
  refine lv_bipush (v := 6) hx hb dX5_init_13 (by decide) ?_
  refine va_newa (atype := .int) (N' := 6) (a0 := (6, .inl (fun _ => 0))) hx hb (hts _ m_X5_init_3) rfl hK hP hD hS hA (fun _ => rfl) (by decide) (by decide) (by decide) (Nat.le_of_ble_eq_true rfl) (Nat.le_of_ble_eq_true rfl) dX5_init_15 (fun q2_ cA_ H hKn hP hD hS => ?_)
  obtain rfl := va_K.oneI hKn
  have hP : va_P (dC, dI) vwCl [(h, .inr (5, [.null, .null, .ref q1_, .null])), (q1_, .inl (cy 0, 6, .inl (fun _ => 0))), (q2_, .inl (cy 0, 6, .inl (fun _ => 0)))] H := hP
  have hD : va_D A [(h, .inr (5, [.null, .null, .ref q1_, .null])), (q1_, .inl (cy 0, 6, .inl (fun _ => 0))), (q2_, .inl (cy 0, 6, .inl (fun _ => 0)))] := hD
  refine va_putF (D := (dC, dI)) (ci := 5) (v := .ref q2_) (ty := .array .int) (C := RX5) (T := TX5) (N := 4) hx hb hts i_X5_init_X5 tyX5 tyX5_ok nmX5 hown hK hP hD hS 0 rfl rfl 3 (by decide) (hts _ m_X5_init_5) (fun _ h9 => h9) rfl hin rfl (by decide +kernel) rfl rfl (Nat.le_of_ble_eq_true rfl) dX5_init_17 (fun H locs hP hD hS => ?_)
  have hP : va_P (dC, dI) vwCl [(h, .inr (5, [.null, .null, .ref q1_, .ref q2_])), (q1_, .inl (cy 0, 6, .inl (fun _ => 0))), (q2_, .inl (cy 0, 6, .inl (fun _ => 0)))] H := hP
  have hD : va_D A [(h, .inr (5, [.null, .null, .ref q1_, .ref q2_])), (q1_, .inl (cy 0, 6, .inl (fun _ => 0))), (q2_, .inl (cy 0, 6, .inl (fun _ => 0)))] := hD
  refine lv_aload_n hx hb dX5_init_20 rfl (lv_at hl 0 rfl) ?_
  refine lv_aload_n hx hb dX5_init_21 rfl (lv_at hl 1 rfl) ?_
  refine va_putF (D := (dC, dI)) (ci := 5) (v := .ref tr) (ty := .object "RestBoard$Tree") (C := RX5) (T := TX5) (N := 4) hx hb hts i_X5_init_X5 tyX5 tyX5_ok nmX5 hown hK hP hD hS 0 rfl rfl 0 (by decide) (hts _ m_X5_init_6) (fun _ h9 => h9) rfl hin rfl (by decide +kernel) rfl rfl (Nat.le_of_ble_eq_true rfl) dX5_init_22 (fun H locs hP hD hS => ?_)
  have hP : va_P (dC, dI) vwCl [(h, .inr (5, [.ref tr, .null, .ref q1_, .ref q2_])), (q1_, .inl (cy 0, 6, .inl (fun _ => 0))), (q2_, .inl (cy 0, 6, .inl (fun _ => 0)))] H := hP
  have hD : va_D A [(h, .inr (5, [.ref tr, .null, .ref q1_, .ref q2_])), (q1_, .inl (cy 0, 6, .inl (fun _ => 0))), (q2_, .inl (cy 0, 6, .inl (fun _ => 0)))] := hD
  refine lv_aload_n hx hb dX5_init_25 rfl (lv_at hl 0 rfl) ?_
  refine lv_aload_n hx hb dX5_init_26 rfl (lv_at hl 2 rfl) ?_
  refine va_putF (D := (dC, dI)) (ci := 5) (v := .ref nw) (ty := .object "RestBoard$State") (C := RX5) (T := TX5) (N := 4) hx hb hts i_X5_init_X5 tyX5 tyX5_ok nmX5 hown hK hP hD hS 0 rfl rfl 1 (by decide) (hts _ m_X5_init_7) (fun _ h9 => h9) rfl hin rfl (by decide +kernel) rfl rfl (Nat.le_of_ble_eq_true rfl) dX5_init_27 (fun H locs hP hD hS => ?_)
  have hP : va_P (dC, dI) vwCl [(h, .inr (5, [.ref tr, .ref nw, .ref q1_, .ref q2_])), (q1_, .inl (cy 0, 6, .inl (fun _ => 0))), (q2_, .inl (cy 0, 6, .inl (fun _ => 0)))] H := hP
  have hD : va_D A [(h, .inr (5, [.ref tr, .ref nw, .ref q1_, .ref q2_])), (q1_, .inl (cy 0, 6, .inl (fun _ => 0))), (q2_, .inl (cy 0, 6, .inl (fun _ => 0)))] := hD
  have hP9 := hP.sub (ws' := [(h, .inr (5, [.ref tr, .ref nw, .ref q1_, .ref q2_]))]) [0] rfl
  have hD9 := hD.sub (ws' := [(h, .inr (5, [.ref tr, .ref nw, .ref q1_, .ref q2_]))]) [0] (by decide) rfl
  exact W.vret hx hb hr (fun t ht hW => ⟨⟨((fun k => [q1_, q2_].getD k 0, fun k => [].getD k (fun _ => 0), fun k => [].getD k (fun _ => none)) : uS), rfl, trivial, (by rw [ht]; exact hP9), hD9⟩, hS.F ht⟩) hS.2.2 dX5_init_30

theorem dX7_init_0 : decode cX7_init 0 = .ok (.aload_n 0, 1) := by decide +kernel
theorem dX7_init_1 : decode cX7_init 1 = .ok (.invokespecial 3, 3) := by decide +kernel
theorem dX7_init_4 : decode cX7_init 4 = .ok (.aload_n 0, 1) := by decide +kernel
theorem dX7_init_5 : decode cX7_init 5 = .ok (.bipush 32, 2) := by decide +kernel
theorem dX7_init_7 : decode cX7_init 7 = .ok (.newarray .int, 2) := by decide +kernel
theorem dX7_init_9 : decode cX7_init 9 = .ok (.putfield 9, 3) := by decide +kernel
theorem dX7_init_12 : decode cX7_init 12 = .ok (.aload_n 0, 1) := by decide +kernel
theorem dX7_init_13 : decode cX7_init 13 = .ok (.aload_n 1, 1) := by decide +kernel
theorem dX7_init_14 : decode cX7_init 14 = .ok (.putfield 15, 3) := by decide +kernel
theorem dX7_init_17 : decode cX7_init 17 = .ok (.aload_n 0, 1) := by decide +kernel
theorem dX7_init_18 : decode cX7_init 18 = .ok (.aload_n 2, 1) := by decide +kernel
theorem dX7_init_19 : decode cX7_init 19 = .ok (.putfield 19, 3) := by decide +kernel
theorem dX7_init_22 : decode cX7_init 22 = .ok (.aload_n 0, 1) := by decide +kernel
theorem dX7_init_23 : decode cX7_init 23 = .ok (.aload_n 3, 1) := by decide +kernel
theorem dX7_init_24 : decode cX7_init 24 = .ok (.putfield 23, 3) := by decide +kernel
theorem dX7_init_27 : decode cX7_init 27 = .ok (.aload_n 0, 1) := by decide +kernel
theorem dX7_init_28 : decode cX7_init 28 = .ok (.aload 4, 2) := by decide +kernel
theorem dX7_init_30 : decode cX7_init 30 = .ok (.putfield 27, 3) := by decide +kernel
theorem dX7_init_33 : decode cX7_init 33 = .ok (.return_, 1) := by decide +kernel
def v_X7_init : List Cond := .code yX7_init cX7_init 5 none :: ([.methodLink RX7 3 objectInit, .instanceMethod objectInit, .code objectInit ⟨#[0xb1]⟩ 1 none, .arrayClass .int, .fieldLink RX7 9 "RestBoard$Rests" "turns" "[I", .fieldLink RX7 15 "RestBoard$Rests" "tree" "LRestBoard$Tree;", .fieldLink RX7 19 "RestBoard$Rests" "now" "LRestBoard$State;", .fieldLink RX7 23 "RestBoard$Rests" "machine" "LRestBoard$Machine;", .fieldLink RX7 27 "RestBoard$Rests" "powers" "LRestBoard$Powers;"] ++ wsX70)
theorem m_X7_init_0 : (.methodLink RX7 3 objectInit : Cond) ∈ v_X7_init := List.mem_of_getElem? (i := 1) (by decide +kernel)
theorem m_X7_init_1 : (.instanceMethod objectInit : Cond) ∈ v_X7_init := List.mem_of_getElem? (i := 2) (by decide +kernel)
theorem m_X7_init_2 : (.code objectInit ⟨#[0xb1]⟩ 1 none : Cond) ∈ v_X7_init := List.mem_of_getElem? (i := 3) (by decide +kernel)
theorem m_X7_init_3 : (.arrayClass .int : Cond) ∈ v_X7_init := List.mem_of_getElem? (i := 4) (by decide +kernel)
theorem m_X7_init_4 : (.fieldLink RX7 9 "RestBoard$Rests" "turns" "[I" : Cond) ∈ v_X7_init := List.mem_of_getElem? (i := 5) (by decide +kernel)
theorem m_X7_init_5 : (.fieldLink RX7 15 "RestBoard$Rests" "tree" "LRestBoard$Tree;" : Cond) ∈ v_X7_init := List.mem_of_getElem? (i := 6) (by decide +kernel)
theorem m_X7_init_6 : (.fieldLink RX7 19 "RestBoard$Rests" "now" "LRestBoard$State;" : Cond) ∈ v_X7_init := List.mem_of_getElem? (i := 7) (by decide +kernel)
theorem m_X7_init_7 : (.fieldLink RX7 23 "RestBoard$Rests" "machine" "LRestBoard$Machine;" : Cond) ∈ v_X7_init := List.mem_of_getElem? (i := 8) (by decide +kernel)
theorem m_X7_init_8 : (.fieldLink RX7 27 "RestBoard$Rests" "powers" "LRestBoard$Powers;" : Cond) ∈ v_X7_init := List.mem_of_getElem? (i := 9) (by decide +kernel)
theorem i_X7_init_X7 : ∀ w ∈ u_ws RX7 TX7 5, w ∈ v_X7_init := fun w h => List.mem_cons_of_mem _ (List.mem_append_right _ h)
set_option maxHeartbeats 4000000 in
set_option maxRecDepth 100000 in
theorem c_X7_init (l : Launch) (dC : Nat → ClassId) (dI : Nat → Nat → Nat) (cy : Nat → ClassId) (h : Nat) (tr : Nat) (nw : Nat) (mc : Nat) (po : Nat) (sz : Nat) : Met l yX7_init v_X7_init ({ frames := 1, cells := 1, slots := 32, locals := 12 }) (va_Pc [.ref h, .ref tr, .ref nw, .ref mc, .ref po] (ps dC dI cy ([(h, .inr (7, [.null, .null, .null, .null, .null]))]) sz)) (va_Qv (fun (_ : uS) => True) (fun (u : uS) (t : State) => va_P (dC, dI) vwCl ([(h, .inr (7, [.ref tr, .ref nw, .ref mc, .ref po, .ref (u.1 0)]))]) t.heap ∧ va_D (va_A ([(h, .inr (7, [.null, .null, .null, .null, .null]))]) sz) ([(h, .inr (7, [.ref tr, .ref nw, .ref mc, .ref po, .ref (u.1 0)]))])) (va_A ([(h, .inr (7, [.null, .null, .null, .null, .null]))]) sz)) 1 32 (va_A ([(h, .inr (7, [.null, .null, .null, .null, .null]))]) sz) := by
  refine Met.ofW (cc := cX7_init) (maxL := 5) (ret := none) (by decide) rfl ?_
  intro p e s m args below meth c s₁ B hml hv
  obtain ⟨rfl, hsz, hP, hC, hD0⟩ := hv
  have hK := hC.1
  have hx := B.exec
  have hb := B.bytes
  have hr := B.returns
  have hts := atoms_spec (ws := v_X7_init) B.pre
  have hown : s.vm.findClass RX7 = some m.cls := findClass_of_methodNamed B.named
  have hlocks := B.notSynchronized
  have hin : meth.name = "<init>" := (name_of_methodNamed B.named B.method).1
  subst hsz
  have hD := hD0.self (sz := s.heap.size)
  generalize hAe : va_A ([(h, .inr (7, [.null, .null, .null, .null, .null]))]) s.heap.size = A at hD ⊢
  have hA : ∀ q : Nat, s.heap.size ≤ q → A q := fun q h => by rw [← hAe]; exact Or.inr h
  have hS : va_S A s.heap s.heap [] := va_S.rf
  have hl := lv_entry ([.ref h, .ref tr, .ref nw, .ref mc, .ref po]) (n := 5) (Nat.le_of_ble_eq_true rfl)
  rw [lg_entry_eq]
  generalize (lg_sl ([.ref h, .ref tr, .ref nw, .ref mc, .ref po]) ++ List.replicate (5 - (lg_sl ([.ref h, .ref tr, .ref nw, .ref mc, .ref po])).length) Slot.unset).toArray = ls at hl ⊢
  have hl : lv_has ls 5 [(0, .ref h), (1, .ref tr), (2, .ref nw), (3, .ref mc), (4, .ref po)] := hl
  refine lv_aload_n hx hb dX7_init_0 rfl (lv_at hl 0 rfl) ?_
  refine W.objInit hx hb hown (hts _ m_X7_init_0) (hts _ m_X7_init_1) (hts _ m_X7_init_2) rfl (by rw [hml]; exact hl.1) rfl dX7_init_1 (Nat.le_of_ble_eq_true rfl) (Nat.le_of_ble_eq_true rfl) ?_
  refine W.eq (g2 := F0 m 4 ls []) rfl ?_
  refine lv_aload_n hx hb dX7_init_4 rfl (lv_at hl 0 rfl) ?_
  refine lv_bipush (v := 32) hx hb dX7_init_5 (by decide) ?_
  refine va_newa (atype := .int) (N' := 32) (a0 := (32, .inl (fun _ => 0))) hx hb (hts _ m_X7_init_3) rfl hK hP hD hS hA (fun _ => rfl) (by decide) (by decide) (by decide) (Nat.le_of_ble_eq_true rfl) (Nat.le_of_ble_eq_true rfl) dX7_init_7 (fun q1_ cA_ H hKn hP hD hS => ?_)
  obtain rfl := va_K.oneI hKn
  have hP : va_P (dC, dI) vwCl [(h, .inr (7, [.null, .null, .null, .null, .null])), (q1_, .inl (cy 0, 32, .inl (fun _ => 0)))] H := hP
  have hD : va_D A [(h, .inr (7, [.null, .null, .null, .null, .null])), (q1_, .inl (cy 0, 32, .inl (fun _ => 0)))] := hD
  refine va_putF (D := (dC, dI)) (ci := 7) (v := .ref q1_) (ty := .array .int) (C := RX7) (T := TX7) (N := 5) hx hb hts i_X7_init_X7 tyX7 tyX7_ok nmX7 hown hK hP hD hS 0 rfl rfl 4 (by decide) (hts _ m_X7_init_4) (fun _ h9 => h9) rfl hin rfl (by decide +kernel) rfl rfl (Nat.le_of_ble_eq_true rfl) dX7_init_9 (fun H locs hP hD hS => ?_)
  have hP : va_P (dC, dI) vwCl [(h, .inr (7, [.null, .null, .null, .null, .ref q1_])), (q1_, .inl (cy 0, 32, .inl (fun _ => 0)))] H := hP
  have hD : va_D A [(h, .inr (7, [.null, .null, .null, .null, .ref q1_])), (q1_, .inl (cy 0, 32, .inl (fun _ => 0)))] := hD
  refine lv_aload_n hx hb dX7_init_12 rfl (lv_at hl 0 rfl) ?_
  refine lv_aload_n hx hb dX7_init_13 rfl (lv_at hl 1 rfl) ?_
  refine va_putF (D := (dC, dI)) (ci := 7) (v := .ref tr) (ty := .object "RestBoard$Tree") (C := RX7) (T := TX7) (N := 5) hx hb hts i_X7_init_X7 tyX7 tyX7_ok nmX7 hown hK hP hD hS 0 rfl rfl 0 (by decide) (hts _ m_X7_init_5) (fun _ h9 => h9) rfl hin rfl (by decide +kernel) rfl rfl (Nat.le_of_ble_eq_true rfl) dX7_init_14 (fun H locs hP hD hS => ?_)
  have hP : va_P (dC, dI) vwCl [(h, .inr (7, [.ref tr, .null, .null, .null, .ref q1_])), (q1_, .inl (cy 0, 32, .inl (fun _ => 0)))] H := hP
  have hD : va_D A [(h, .inr (7, [.ref tr, .null, .null, .null, .ref q1_])), (q1_, .inl (cy 0, 32, .inl (fun _ => 0)))] := hD
  refine lv_aload_n hx hb dX7_init_17 rfl (lv_at hl 0 rfl) ?_
  refine lv_aload_n hx hb dX7_init_18 rfl (lv_at hl 2 rfl) ?_
  refine va_putF (D := (dC, dI)) (ci := 7) (v := .ref nw) (ty := .object "RestBoard$State") (C := RX7) (T := TX7) (N := 5) hx hb hts i_X7_init_X7 tyX7 tyX7_ok nmX7 hown hK hP hD hS 0 rfl rfl 1 (by decide) (hts _ m_X7_init_6) (fun _ h9 => h9) rfl hin rfl (by decide +kernel) rfl rfl (Nat.le_of_ble_eq_true rfl) dX7_init_19 (fun H locs hP hD hS => ?_)
  have hP : va_P (dC, dI) vwCl [(h, .inr (7, [.ref tr, .ref nw, .null, .null, .ref q1_])), (q1_, .inl (cy 0, 32, .inl (fun _ => 0)))] H := hP
  have hD : va_D A [(h, .inr (7, [.ref tr, .ref nw, .null, .null, .ref q1_])), (q1_, .inl (cy 0, 32, .inl (fun _ => 0)))] := hD
  refine lv_aload_n hx hb dX7_init_22 rfl (lv_at hl 0 rfl) ?_
  refine lv_aload_n hx hb dX7_init_23 rfl (lv_at hl 3 rfl) ?_
  refine va_putF (D := (dC, dI)) (ci := 7) (v := .ref mc) (ty := .object "RestBoard$Machine") (C := RX7) (T := TX7) (N := 5) hx hb hts i_X7_init_X7 tyX7 tyX7_ok nmX7 hown hK hP hD hS 0 rfl rfl 2 (by decide) (hts _ m_X7_init_7) (fun _ h9 => h9) rfl hin rfl (by decide +kernel) rfl rfl (Nat.le_of_ble_eq_true rfl) dX7_init_24 (fun H locs hP hD hS => ?_)
  have hP : va_P (dC, dI) vwCl [(h, .inr (7, [.ref tr, .ref nw, .ref mc, .null, .ref q1_])), (q1_, .inl (cy 0, 32, .inl (fun _ => 0)))] H := hP
  have hD : va_D A [(h, .inr (7, [.ref tr, .ref nw, .ref mc, .null, .ref q1_])), (q1_, .inl (cy 0, 32, .inl (fun _ => 0)))] := hD
  refine lv_aload_n hx hb dX7_init_27 rfl (lv_at hl 0 rfl) ?_
  refine lv_aload hx hb dX7_init_28 (lv_at hl 4 rfl) ?_
  refine va_putF (D := (dC, dI)) (ci := 7) (v := .ref po) (ty := .object "RestBoard$Powers") (C := RX7) (T := TX7) (N := 5) hx hb hts i_X7_init_X7 tyX7 tyX7_ok nmX7 hown hK hP hD hS 0 rfl rfl 3 (by decide) (hts _ m_X7_init_8) (fun _ h9 => h9) rfl hin rfl (by decide +kernel) rfl rfl (Nat.le_of_ble_eq_true rfl) dX7_init_30 (fun H locs hP hD hS => ?_)
  have hP : va_P (dC, dI) vwCl [(h, .inr (7, [.ref tr, .ref nw, .ref mc, .ref po, .ref q1_])), (q1_, .inl (cy 0, 32, .inl (fun _ => 0)))] H := hP
  have hD : va_D A [(h, .inr (7, [.ref tr, .ref nw, .ref mc, .ref po, .ref q1_])), (q1_, .inl (cy 0, 32, .inl (fun _ => 0)))] := hD
  have hP9 := hP.sub (ws' := [(h, .inr (7, [.ref tr, .ref nw, .ref mc, .ref po, .ref q1_]))]) [0] rfl
  have hD9 := hD.sub (ws' := [(h, .inr (7, [.ref tr, .ref nw, .ref mc, .ref po, .ref q1_]))]) [0] (by decide) rfl
  exact W.vret hx hb hr (fun t ht hW => ⟨⟨((fun k => [q1_].getD k 0, fun k => [].getD k (fun _ => 0), fun k => [].getD k (fun _ => none)) : uS), rfl, trivial, (by rw [ht]; exact hP9), hD9⟩, hS.F ht⟩) hS.2.2 dX7_init_33

