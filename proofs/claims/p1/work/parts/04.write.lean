theorem dX11_refuse_0 : decode cX11_refuse 0 = .ok (.aload_n 0, 1) := by decide +kernel
theorem dX11_refuse_1 : decode cX11_refuse 1 = .ok (.iload_n 1, 1) := by decide +kernel
theorem dX11_refuse_2 : decode cX11_refuse 2 = .ok (.putfield 293, 3) := by decide +kernel
theorem dX11_refuse_5 : decode cX11_refuse 5 = .ok (.iconst (-1), 1) := by decide +kernel
theorem dX11_refuse_6 : decode cX11_refuse 6 = .ok (.iload_n 1, 1) := by decide +kernel
theorem dX11_refuse_7 : decode cX11_refuse 7 = .ok (.isub, 1) := by decide +kernel
theorem dX11_refuse_8 : decode cX11_refuse 8 = .ok (.istore_n 2, 1) := by decide +kernel
theorem dX11_refuse_9 : decode cX11_refuse 9 = .ok (.iload_n 2, 1) := by decide +kernel
theorem dX11_refuse_10 : decode cX11_refuse 10 = .ok (.ifCond .lt 19, 3) := by decide +kernel
theorem dX11_refuse_13 : decode cX11_refuse 13 = .ok (.iload_n 2, 1) := by decide +kernel
theorem dX11_refuse_14 : decode cX11_refuse 14 = .ok (.bipush 7, 2) := by decide +kernel
theorem dX11_refuse_16 : decode cX11_refuse 16 = .ok (.if_icmp .ge 13, 3) := by decide +kernel
theorem dX11_refuse_19 : decode cX11_refuse 19 = .ok (.aload_n 0, 1) := by decide +kernel
theorem dX11_refuse_20 : decode cX11_refuse 20 = .ok (.getfield 69, 3) := by decide +kernel
theorem dX11_refuse_23 : decode cX11_refuse 23 = .ok (.iload_n 2, 1) := by decide +kernel
theorem dX11_refuse_24 : decode cX11_refuse 24 = .ok (.dup2, 1) := by decide +kernel
theorem dX11_refuse_25 : decode cX11_refuse 25 = .ok (.iaload, 1) := by decide +kernel
theorem dX11_refuse_26 : decode cX11_refuse 26 = .ok (.iconst 1, 1) := by decide +kernel
theorem dX11_refuse_27 : decode cX11_refuse 27 = .ok (.iadd, 1) := by decide +kernel
theorem dX11_refuse_28 : decode cX11_refuse 28 = .ok (.iastore, 1) := by decide +kernel
theorem dX11_refuse_29 : decode cX11_refuse 29 = .ok (.iload_n 1, 1) := by decide +kernel
theorem dX11_refuse_30 : decode cX11_refuse 30 = .ok (.ireturn, 1) := by decide +kernel
def v_X11_refuse : List Cond := .code yX11_refuse cX11_refuse 3 (some .int) :: ([.fieldLink RX11 293 "RestBoard" "refusedBy" "I", .fieldLink RX11 69 "RestBoard" "refusals" "[I"] ++ wsX110)
theorem m_X11_refuse_0 : (.fieldLink RX11 293 "RestBoard" "refusedBy" "I" : Cond) ∈ v_X11_refuse := List.mem_of_getElem? (i := 1) (by decide +kernel)
theorem m_X11_refuse_1 : (.fieldLink RX11 69 "RestBoard" "refusals" "[I" : Cond) ∈ v_X11_refuse := List.mem_of_getElem? (i := 2) (by decide +kernel)
theorem i_X11_refuse_X11 : ∀ w ∈ u_ws RX11 TX11 11, w ∈ v_X11_refuse := fun w h => List.mem_cons_of_mem _ (List.mem_append_right _ h)
set_option maxHeartbeats 4000000 in
set_option maxRecDepth 100000 in
theorem c_X11_refuse (l : Launch) (dC : Nat → ClassId) (dI : Nat → Nat → Nat) (cy : Nat → ClassId) (a : Nat → Nat) (g : Nat → Nat → Option Nat) (sz : Nat) (p0 x10 : Int32) : Met l yX11_refuse v_X11_refuse ({ frames := 0, cells := 0, slots := 0, locals := 0 }) (va_Pc [.ref (a 0), .int p0] (ps dC dI cy ([(a 0, .inr (11, [.ref (a 1), .ref (a 60), .ref (a 21), .ref (a 24), .ref (a 28), .ref (a 30), .ref (a 31), .ref (a 32), .ref (a 55), .int 0, .int x10])), (a 55, .inl (cy 0, 7, .inl (fun _ => 0)))]) sz)) (va_Qi (fun (r : Int32) (_ : Unit) => (((((-1) : Int32) - p0) < 0) ∧ r = p0) ∨ ((¬ (((-1) : Int32) - p0) < 0) ∧ ((7 : Int32) ≤ (((-1) : Int32) - p0)) ∧ r = p0) ∨ ((¬ (((-1) : Int32) - p0) < 0) ∧ (¬ (7 : Int32) ≤ (((-1) : Int32) - p0)) ∧ r = p0)) (fun _ _ => True) (va_A ([(a 0, .inr (11, [.ref (a 1), .ref (a 60), .ref (a 21), .ref (a 24), .ref (a 28), .ref (a 30), .ref (a 31), .ref (a 32), .ref (a 55), .int 0, .int x10])), (a 55, .inl (cy 0, 7, .inl (fun _ => 0)))]) sz)) 0 0 (va_A ([(a 0, .inr (11, [.ref (a 1), .ref (a 60), .ref (a 21), .ref (a 24), .ref (a 28), .ref (a 30), .ref (a 31), .ref (a 32), .ref (a 55), .int 0, .int x10])), (a 55, .inl (cy 0, 7, .inl (fun _ => 0)))]) sz) := by
  refine Met.ofW (cc := cX11_refuse) (maxL := 3) (ret := (some .int)) (by decide) rfl ?_
  intro p e s m args below meth c s₁ B hml hv
  obtain ⟨rfl, hsz, hP, hC, hD0⟩ := hv
  have hK := hC.1
  have hx := B.exec
  have hb := B.bytes
  have hr := B.returns
  have hts := atoms_spec (ws := v_X11_refuse) B.pre
  have hown : s.vm.findClass RX11 = some m.cls := findClass_of_methodNamed B.named
  have hlocks := B.notSynchronized
  subst hsz
  have hD := hD0.self (sz := s.heap.size)
  generalize hAe : va_A ([(a 0, .inr (11, [.ref (a 1), .ref (a 60), .ref (a 21), .ref (a 24), .ref (a 28), .ref (a 30), .ref (a 31), .ref (a 32), .ref (a 55), .int 0, .int x10])), (a 55, .inl (cy 0, 7, .inl (fun _ => 0)))]) s.heap.size = A at hD ⊢
  have hA : ∀ q : Nat, s.heap.size ≤ q → A q := fun q h => by rw [← hAe]; exact Or.inr h
  have hS : va_S A s.heap s.heap [] := va_S.rf
  have hl := lv_entry ([.ref (a 0), .int p0]) (n := 3) (Nat.le_of_ble_eq_true rfl)
  rw [lg_entry_eq]
  generalize (lg_sl ([.ref (a 0), .int p0]) ++ List.replicate (3 - (lg_sl ([.ref (a 0), .int p0])).length) Slot.unset).toArray = ls at hl ⊢
  have hl : lv_has ls 3 [(0, .ref (a 0)), (1, .int p0)] := hl
  refine lv_aload_n hx hb dX11_refuse_0 rfl (lv_at hl 0 rfl) ?_
  refine lv_iload_n hx hb dX11_refuse_1 rfl (lv_at hl 1 rfl) ?_
  refine va_put (D := (dC, dI)) (ci := 11) (v := .int p0) (ty := .int) (C := RX11) (T := TX11) (N := 11) hx hb hts i_X11_refuse_X11 tyX11 tyX11_ok nmX11 hown hK hP hD hS 0 rfl rfl 9 (by decide) (hts _ m_X11_refuse_0) (fun _ h9 => h9) rfl (by decide +kernel) rfl rfl (Nat.le_of_ble_eq_true rfl) dX11_refuse_2 (fun H locs hP hD hS => ?_)
  refine lv_iconst (v := (-1)) hx hb dX11_refuse_5 (by decide) ?_
  refine lv_iload_n hx hb dX11_refuse_6 rfl (lv_at hl 1 rfl) ?_
  refine lv_isub hx hb dX11_refuse_7 ?_
  refine lv_istore_n (lv' := [(2, .int (((-1) : Int32) - p0)), (0, .ref (a 0)), (1, .int p0)]) hx hb dX11_refuse_8 rfl hl (by decide) rfl (fun ls hl => ?_)
  refine lv_iload_n hx hb dX11_refuse_9 rfl (lv_at hl 0 rfl) ?_
  refine lv_if_lt (tgt := 29) hx hb dX11_refuse_10 (by decide) (fun c1_ => ?_) (fun c1_ => ?_)
  · skip
    refine lv_iload_n hx hb dX11_refuse_29 rfl (lv_at hl 2 rfl) ?_
    exact W.iret (v := p0) hx hb hr (fun t ht hW => ⟨⟨p0, (), rfl, Or.inl (⟨c1_, rfl⟩), trivial⟩, hS.F ht⟩) hS.2.2 dX11_refuse_30
  · skip
    refine lv_iload_n hx hb dX11_refuse_13 rfl (lv_at hl 0 rfl) ?_
    refine lv_bipush (v := 7) hx hb dX11_refuse_14 (by decide) ?_
    refine lv_icmp_ge (tgt := 29) hx hb dX11_refuse_16 (by decide) (fun c2_ => ?_) (fun c2_ => ?_)
    · skip
      refine lv_iload_n hx hb dX11_refuse_29 rfl (lv_at hl 2 rfl) ?_
      exact W.iret (v := p0) hx hb hr (fun t ht hW => ⟨⟨p0, (), rfl, Or.inr (Or.inl (⟨c1_, c2_, rfl⟩)), trivial⟩, hS.F ht⟩) hS.2.2 dX11_refuse_30
    · skip
      refine lv_aload_n hx hb dX11_refuse_19 rfl (lv_at hl 1 rfl) ?_
      refine va_get (D := (dC, dI)) (ci := 11) (v := .ref (a 55)) (C := RX11) (T := TX11) (N := 11) hx hb hts i_X11_refuse_X11 hown hK hP 0 rfl rfl 8 (by decide) (hts _ m_X11_refuse_1) (fun _ h9 => h9) rfl dX11_refuse_20 ?_
      refine lv_iload_n hx hb dX11_refuse_23 rfl (lv_at hl 0 rfl) ?_
      refine lv_dup2_11 hx hb dX11_refuse_24 rfl rfl ?_
      refine va_iald hx hb hK hP 1 0 rfl rfl (vp_in_iff.mpr (by have z0_ := tz_nlt_r c1_ (show (0 : Int32).toInt = 0 by decide); have z1_ := tz_nle_l c2_ (show (7 : Int32).toInt = 7 by decide); omega)) dX11_refuse_25 ?_
      refine tk_i 0 (by rfl) ?_
      refine lv_iconst (v := 1) hx hb dX11_refuse_26 (by decide) ?_
      refine lv_iadd hx hb dX11_refuse_27 ?_
      refine tk_i 1 (by decide) ?_
      refine va_iast hx hb hK hP hD hS 1 0 rfl rfl (vp_in_iff.mpr (by have z0_ := tz_nlt_r c1_ (show (0 : Int32).toInt = 0 by decide); have z1_ := tz_nle_l c2_ (show (7 : Int32).toInt = 7 by decide); omega)) dX11_refuse_28 (fun H locs hP hD hS => ?_)
      refine lv_iload_n hx hb dX11_refuse_29 rfl (lv_at hl 2 rfl) ?_
      exact W.iret (v := p0) hx hb hr (fun t ht hW => ⟨⟨p0, (), rfl, Or.inr (Or.inr (⟨c1_, c2_, rfl⟩)), trivial⟩, hS.F ht⟩) hS.2.2 dX11_refuse_30

theorem dX11_accept_0 : decode cX11_accept 0 = .ok (.aload_n 0, 1) := by decide +kernel
theorem dX11_accept_1 : decode cX11_accept 1 = .ok (.iconst 0, 1) := by decide +kernel
theorem dX11_accept_2 : decode cX11_accept 2 = .ok (.putfield 293, 3) := by decide +kernel
theorem dX11_accept_5 : decode cX11_accept 5 = .ok (.iload_n 1, 1) := by decide +kernel
theorem dX11_accept_6 : decode cX11_accept 6 = .ok (.ireturn, 1) := by decide +kernel
def v_X11_accept : List Cond := .code yX11_accept cX11_accept 2 (some .int) :: ([.fieldLink RX11 293 "RestBoard" "refusedBy" "I"] ++ wsX110)
theorem m_X11_accept_0 : (.fieldLink RX11 293 "RestBoard" "refusedBy" "I" : Cond) ∈ v_X11_accept := List.mem_of_getElem? (i := 1) (by decide +kernel)
theorem i_X11_accept_X11 : ∀ w ∈ u_ws RX11 TX11 11, w ∈ v_X11_accept := fun w h => List.mem_cons_of_mem _ (List.mem_append_right _ h)
set_option maxHeartbeats 4000000 in
set_option maxRecDepth 100000 in
theorem c_X11_accept (l : Launch) (dC : Nat → ClassId) (dI : Nat → Nat → Nat) (cy : Nat → ClassId) (a : Nat → Nat) (g : Nat → Nat → Option Nat) (sz : Nat) (p0 x10 : Int32) : Met l yX11_accept v_X11_accept ({ frames := 0, cells := 0, slots := 0, locals := 0 }) (va_Pc [.ref (a 0), .int p0] (ps dC dI cy ([(a 0, .inr (11, [.ref (a 1), .ref (a 60), .ref (a 21), .ref (a 24), .ref (a 28), .ref (a 30), .ref (a 31), .ref (a 32), .ref (a 55), .int 0, .int x10]))]) sz)) (va_Qi (fun (r : Int32) (_ : Unit) => r = p0) (fun _ _ => True) (va_A ([(a 0, .inr (11, [.ref (a 1), .ref (a 60), .ref (a 21), .ref (a 24), .ref (a 28), .ref (a 30), .ref (a 31), .ref (a 32), .ref (a 55), .int 0, .int x10]))]) sz)) 0 0 (va_A ([(a 0, .inr (11, [.ref (a 1), .ref (a 60), .ref (a 21), .ref (a 24), .ref (a 28), .ref (a 30), .ref (a 31), .ref (a 32), .ref (a 55), .int 0, .int x10]))]) sz) := by
  refine Met.ofW (cc := cX11_accept) (maxL := 2) (ret := (some .int)) (by decide) rfl ?_
  intro p e s m args below meth c s₁ B hml hv
  obtain ⟨rfl, hsz, hP, hC, hD0⟩ := hv
  have hK := hC.1
  have hx := B.exec
  have hb := B.bytes
  have hr := B.returns
  have hts := atoms_spec (ws := v_X11_accept) B.pre
  have hown : s.vm.findClass RX11 = some m.cls := findClass_of_methodNamed B.named
  have hlocks := B.notSynchronized
  subst hsz
  have hD := hD0.self (sz := s.heap.size)
  generalize hAe : va_A ([(a 0, .inr (11, [.ref (a 1), .ref (a 60), .ref (a 21), .ref (a 24), .ref (a 28), .ref (a 30), .ref (a 31), .ref (a 32), .ref (a 55), .int 0, .int x10]))]) s.heap.size = A at hD ⊢
  have hA : ∀ q : Nat, s.heap.size ≤ q → A q := fun q h => by rw [← hAe]; exact Or.inr h
  have hS : va_S A s.heap s.heap [] := va_S.rf
  have hl := lv_entry ([.ref (a 0), .int p0]) (n := 2) (Nat.le_of_ble_eq_true rfl)
  rw [lg_entry_eq]
  generalize (lg_sl ([.ref (a 0), .int p0]) ++ List.replicate (2 - (lg_sl ([.ref (a 0), .int p0])).length) Slot.unset).toArray = ls at hl ⊢
  have hl : lv_has ls 2 [(0, .ref (a 0)), (1, .int p0)] := hl
  refine lv_aload_n hx hb dX11_accept_0 rfl (lv_at hl 0 rfl) ?_
  refine lv_iconst (v := 0) hx hb dX11_accept_1 (by decide) ?_
  refine va_put (D := (dC, dI)) (ci := 11) (v := .int 0) (ty := .int) (C := RX11) (T := TX11) (N := 11) hx hb hts i_X11_accept_X11 tyX11 tyX11_ok nmX11 hown hK hP hD hS 0 rfl rfl 9 (by decide) (hts _ m_X11_accept_0) (fun _ h9 => h9) rfl (by decide +kernel) rfl rfl (Nat.le_of_ble_eq_true rfl) dX11_accept_2 (fun H locs hP hD hS => ?_)
  have hP : va_P (dC, dI) vwCl ([(a 0, .inr (11, [.ref (a 1), .ref (a 60), .ref (a 21), .ref (a 24), .ref (a 28), .ref (a 30), .ref (a 31), .ref (a 32), .ref (a 55), .int 0, .int x10]))]) H := hP
  have hD : va_D A ([(a 0, .inr (11, [.ref (a 1), .ref (a 60), .ref (a 21), .ref (a 24), .ref (a 28), .ref (a 30), .ref (a 31), .ref (a 32), .ref (a 55), .int 0, .int x10]))]) := hD
  refine lv_iload_n hx hb dX11_accept_5 rfl (lv_at hl 1 rfl) ?_
  exact W.iret (v := p0) hx hb hr (fun t ht hW => ⟨⟨p0, (), rfl, rfl, trivial⟩, hS.F ht⟩) hS.2.2 dX11_accept_6

theorem dX11_call_0 : decode cX11_call 0 = .ok (.aload_n 0, 1) := by decide +kernel
theorem dX11_call_1 : decode cX11_call 1 = .ok (.iload_n 1, 1) := by decide +kernel
theorem dX11_call_2 : decode cX11_call 2 = .ok (.iload_n 2, 1) := by decide +kernel
theorem dX11_call_3 : decode cX11_call 3 = .ok (.iload_n 3, 1) := by decide +kernel
theorem dX11_call_4 : decode cX11_call 4 = .ok (.iload 4, 2) := by decide +kernel
theorem dX11_call_6 : decode cX11_call 6 = .ok (.invokevirtual 116, 3) := by decide +kernel
theorem dX11_call_9 : decode cX11_call 9 = .ok (.istore 5, 2) := by decide +kernel
theorem dX11_call_11 : decode cX11_call 11 = .ok (.iload 5, 2) := by decide +kernel
theorem dX11_call_13 : decode cX11_call 13 = .ok (.ifCond .eq 10, 3) := by decide +kernel
theorem dX11_call_16 : decode cX11_call 16 = .ok (.aload_n 0, 1) := by decide +kernel
theorem dX11_call_17 : decode cX11_call 17 = .ok (.iload 5, 2) := by decide +kernel
theorem dX11_call_19 : decode cX11_call 19 = .ok (.invokevirtual 89, 3) := by decide +kernel
theorem dX11_call_22 : decode cX11_call 22 = .ok (.ireturn, 1) := by decide +kernel
def v_X11_call : List Cond := .code yX11_call cX11_call 7 (some .int) :: ([.methodLink RX11 116 yX11_refusalToRun, .instanceMethod yX11_refusalToRun, .selects RX11 yX11_refusalToRun yX11_refusalToRun, .initialized RX11, .code yX11_refusalToRun cX11_refusalToRun 5 (some .int), .fieldLink RX11 24 "RestBoard" "tree" "LRestBoard$Tree;", .methodLink RX11 123 yX11_isValue, .static yX11_isValue, .code yX11_isValue cX11_isValue 1 (some .boolean), .constant RX11 296 (65536), .methodLink RX11 85 yX10_is, .instanceMethod yX10_is, .selects RX10 yX10_is yX10_is, .initialized RX10, .code yX10_is cX10_is 3 (some .boolean), .fieldLink RX10 11 "RestBoard$Tree" "nodes" "[LRestBoard$Node;", .fieldLink RX10 36 "RestBoard$Node" "kind" "I", .methodLink RX10 32 yX10_has, .instanceMethod yX10_has, .selects RX10 yX10_has yX10_has, .code yX10_has cX10_has 2 (some .boolean), .fieldLink RX10 17 "RestBoard$Tree" "now" "LRestBoard$State;", .fieldLink RX10 26 "RestBoard$State" "size" "I", .methodLink RX11 89 yX11_refuse, .instanceMethod yX11_refuse, .selects RX11 yX11_refuse yX11_refuse, .code yX11_refuse cX11_refuse 3 (some .int), .fieldLink RX11 293 "RestBoard" "refusedBy" "I", .fieldLink RX11 69 "RestBoard" "refusals" "[I"] ++ wsX110 ++ wsX100 ++ wsX40 ++ wsX80)
set_option maxRecDepth 100000 in
theorem gg_X11_call_X11_refusalToRun_116 : GoodIn v_X11_call v_X11_refusalToRun := goodIn_r _ [5, 6, 7, 8, 4, 9, 10, 11, 12, 13, 14, 15, 16, 17, 18, 19, 20, 21, 22, 23, 30, 31, 32, 33, 34, 35, 36, 37, 38, 39, 40, 41, 42, 43, 44, 45, 46, 47, 48, 49, 50, 51, 52, 53, 54, 55, 56, 57, 58, 59, 60, 61, 62, 63, 64, 65, 66, 67, 68, 69, 70, 71, 72, 73] (by decide +kernel) (by decide +kernel)
set_option maxRecDepth 100000 in
theorem g_X11_call_X11_refusalToRun_116 : GoodIn v_X11_call (wsV RX11 116 RX11 yX11_refusalToRun v_X11_refusalToRun) := goodIn_app (goodIn_r _ [1, 2, 3, 4] (by decide +kernel) (by decide +kernel)) gg_X11_call_X11_refusalToRun_116
set_option maxRecDepth 100000 in
theorem gg_X11_call_X11_refuse_89 : GoodIn v_X11_call v_X11_refuse := goodIn_r _ [27, 28, 29, 30, 31, 32, 33, 34, 35, 36, 37, 38, 39, 40] (by decide +kernel) (by decide +kernel)
set_option maxRecDepth 100000 in
theorem g_X11_call_X11_refuse_89 : GoodIn v_X11_call (wsV RX11 89 RX11 yX11_refuse v_X11_refuse) := goodIn_app (goodIn_r _ [24, 25, 26, 4] (by decide +kernel) (by decide +kernel)) gg_X11_call_X11_refuse_89
set_option maxHeartbeats 4000000 in
set_option maxRecDepth 100000 in
theorem c_X11_call (l : Launch) (dC : Nat → ClassId) (dI : Nat → Nat → Nat) (cy : Nat → ClassId) (a : Nat → Nat) (g : Nat → Nat → Option Nat) (sz : Nat) (p0 p1 p2 p3 : Int32) : Met l yX11_call v_X11_call ({ frames := 3, cells := 0, slots := 0, locals := 67 }) (va_Pc [.ref (a 0), .int p0, .int p1, .int p2, .int p3] (ps dC dI cy (fw a cy g) sz)) (va_Qi (fun (r : Int32) (_ : Unit) => ((p1 < 0) ∧ r = (-1)) ∨ ((¬ p1 < 0) ∧ ((65536 : Int32) ≤ p1) ∧ r = (-1)) ∨ ((¬ p1 < 0) ∧ (¬ (65536 : Int32) ≤ p1) ∧ (p2 < 0) ∧ r = (-1)) ∨ ((¬ p1 < 0) ∧ (¬ (65536 : Int32) ≤ p1) ∧ (¬ p2 < 0) ∧ ((65536 : Int32) ≤ p2) ∧ r = (-1)) ∨ ((¬ p1 < 0) ∧ (¬ (65536 : Int32) ≤ p1) ∧ (¬ p2 < 0) ∧ (¬ (65536 : Int32) ≤ p2) ∧ (p3 < 0) ∧ r = (-1)) ∨ ((¬ p1 < 0) ∧ (¬ (65536 : Int32) ≤ p1) ∧ (¬ p2 < 0) ∧ (¬ (65536 : Int32) ≤ p2) ∧ (¬ p3 < 0) ∧ ((65536 : Int32) ≤ p3) ∧ r = (-1)) ∨ ((¬ p1 < 0) ∧ (¬ (65536 : Int32) ≤ p1) ∧ (¬ p2 < 0) ∧ (¬ (65536 : Int32) ≤ p2) ∧ (¬ p3 < 0) ∧ (¬ (65536 : Int32) ≤ p3) ∧ (p0 < 0) ∧ r = (-2)) ∨ ((¬ p1 < 0) ∧ (¬ (65536 : Int32) ≤ p1) ∧ (¬ p2 < 0) ∧ (¬ (65536 : Int32) ≤ p2) ∧ (¬ p3 < 0) ∧ (¬ (65536 : Int32) ≤ p3) ∧ (¬ p0 < 0) ∧ ((1 : Int32) ≤ p0) ∧ r = (-2)) ∨ ((¬ p1 < 0) ∧ (¬ (65536 : Int32) ≤ p1) ∧ (¬ p2 < 0) ∧ (¬ (65536 : Int32) ≤ p2) ∧ (¬ p3 < 0) ∧ (¬ (65536 : Int32) ≤ p3) ∧ (p0 = 0) ∧ r = (-2))) (fun _ _ => True) (va_A (fw a cy g) sz)) 0 0 (va_A (fw a cy g) sz) := by
  refine Met.ofW (cc := cX11_call) (maxL := 7) (ret := (some .int)) (by decide) rfl ?_
  intro p e s m args below meth c s₁ B hml hv
  obtain ⟨rfl, hsz, hP, hC, hD0⟩ := hv
  have hK := hC.1
  have hx := B.exec
  have hb := B.bytes
  have hr := B.returns
  have hts := atoms_spec (ws := v_X11_call) B.pre
  have hown : s.vm.findClass RX11 = some m.cls := findClass_of_methodNamed B.named
  have hlocks := B.notSynchronized
  subst hsz
  have hD := hD0.self (sz := s.heap.size)
  generalize hAe : va_A (fw a cy g) s.heap.size = A at hD ⊢
  have hA : ∀ q : Nat, s.heap.size ≤ q → A q := fun q h => by rw [← hAe]; exact Or.inr h
  have hS : va_S A s.heap s.heap [] := va_S.rf
  have hl := lv_entry ([.ref (a 0), .int p0, .int p1, .int p2, .int p3]) (n := 7) (Nat.le_of_ble_eq_true rfl)
  rw [lg_entry_eq]
  generalize (lg_sl ([.ref (a 0), .int p0, .int p1, .int p2, .int p3]) ++ List.replicate (7 - (lg_sl ([.ref (a 0), .int p0, .int p1, .int p2, .int p3])).length) Slot.unset).toArray = ls at hl ⊢
  have hl : lv_has ls 7 [(0, .ref (a 0)), (1, .int p0), (2, .int p1), (3, .int p2), (4, .int p3)] := hl
  refine lv_aload_n hx hb dX11_call_0 rfl (lv_at hl 0 rfl) ?_
  refine lv_iload_n hx hb dX11_call_1 rfl (lv_at hl 1 rfl) ?_
  refine lv_iload_n hx hb dX11_call_2 rfl (lv_at hl 2 rfl) ?_
  refine lv_iload_n hx hb dX11_call_3 rfl (lv_at hl 3 rfl) ?_
  refine lv_iload hx hb dX11_call_4 (lv_at hl 4 rfl) ?_
  refine tk_pi (va_runV (As := [.int p0, .int p1, .int p2, .int p3]) (rest := []) ⟨hx, hb, hml, hown, hts⟩ (c_X11_refusalToRun l dC dI cy a g p0 p1 p2 p3) (cwV 4 hts g_X11_call_X11_refusalToRun_116 rfl rfl rfl (by decide +kernel) ⟨Nat.le_of_ble_eq_true rfl, Nat.le_of_ble_eq_true rfl⟩) (pv_pp hC hP (ci := 11) (q0 := 0) rfl rfl) rfl rfl hl.1 rfl (lv_room (Nat.le_of_ble_eq_true rfl)) dX11_call_6 ⟨Nat.le_of_ble_eq_true rfl, Nat.le_of_ble_eq_true rfl⟩) hP hS (fun r_ H locs hw hP hS => ?_)
  rcases hw with ⟨c1_, rfl⟩ | ⟨c2_, c3_, rfl⟩ | ⟨c4_, c5_, c6_, rfl⟩ | ⟨c7_, c8_, c9_, c10_, rfl⟩ | ⟨c11_, c12_, c13_, c14_, c15_, rfl⟩ | ⟨c16_, c17_, c18_, c19_, c20_, c21_, rfl⟩ | ⟨c22_, c23_, c24_, c25_, c26_, c27_, c28_, rfl⟩ | ⟨c29_, c30_, c31_, c32_, c33_, c34_, c35_, c36_, rfl⟩ | ⟨c37_, c38_, c39_, c40_, c41_, c42_, c43_, rfl⟩
  · skip
    refine lv_istore (lv' := [(5, .int (-1)), (0, .ref (a 0)), (1, .int p0), (2, .int p1), (3, .int p2), (4, .int p3)]) hx hb dX11_call_9 hl (by decide) rfl (fun ls hl => ?_)
    refine lv_iload hx hb dX11_call_11 (lv_at hl 0 rfl) ?_
    refine lv_if_eq (tgt := 23) hx hb dX11_call_13 (by decide) (fun c9_ => absurd c9_ (by decide)) (fun _ => ?_)
    refine lv_aload_n hx hb dX11_call_16 rfl (lv_at hl 1 rfl) ?_
    refine lv_iload hx hb dX11_call_17 (lv_at hl 0 rfl) ?_
    have hPc : va_P (dC, dI) vwCl ([(a 0, .inr (11, [.ref (a 1), .ref (a 60), .ref (a 21), .ref (a 24), .ref (a 28), .ref (a 30), .ref (a 31), .ref (a 32), .ref (a 55), .int 0, .int (-1)])), (a 55, .inl (cy 0, 7, .inl (fun _ => 0)))]) _ := hP.sub [0, 55] rfl
    have hDc := hD.sub (ws' := [(a 0, .inr (11, [.ref (a 1), .ref (a 60), .ref (a 21), .ref (a 24), .ref (a 28), .ref (a 30), .ref (a 31), .ref (a 32), .ref (a 55), .int 0, .int (-1)])), (a 55, .inl (cy 0, 7, .inl (fun _ => 0)))]) [0, 55] (by decide) rfl
    have hFc := va_free (wc := [(a 0, .inr (11, [.ref (a 1), .ref (a 60), .ref (a 21), .ref (a 24), .ref (a 28), .ref (a 30), .ref (a 31), .ref (a 32), .ref (a 55), .int 0, .int (-1)])), (a 55, .inl (cy 0, 7, .inl (fun _ => 0)))]) hD hS hA [0, 55] rfl
    refine va_calli (va_runV (As := [.int (-1)]) (rest := []) ⟨hx, hb, hml, hown, hts⟩ (c_X11_refuse l dC dI cy a g _ (-1) (-1)) (cwV 1 hts g_X11_call_X11_refuse_89 rfl rfl rfl (by decide +kernel) ⟨Nat.le_of_ble_eq_true rfl, Nat.le_of_ble_eq_true rfl⟩) (pv_ps hC hPc hDc (ci := 11) (q0 := 0) rfl rfl) rfl rfl hl.1 rfl (lv_room (Nat.le_of_ble_eq_true rfl)) dX11_call_19 ⟨Nat.le_of_ble_eq_true rfl, Nat.le_of_ble_eq_true rfl⟩) hS (fun q _ h => hFc q h) hFc (fun r_ u t_ H1 locs ht hvm hw hB hz1 hk1 hS => ?_)
    obtain ⟨hP, hD⟩ := va_join (wr := []) (w1 := []) hP hD [0, 55] [] rfl rfl (by decide) (by decide) hk1 hFc va_P0 va_D0
    generalize H1 = H at hP hS ⊢
    have hP : va_P (dC, dI) vwCl ([]) H := hP
    have hD : va_D A ([]) := hD
    rcases hw with ⟨c44_, rfl⟩ | ⟨-, c46_, rfl⟩ | ⟨-, -, rfl⟩
    · skip
      exact absurd c44_ (by decide)
    · skip
      exact absurd c46_ (by decide)
    · skip
      exact W.iret (v := (-1)) hx hb hr (fun t ht hW => ⟨⟨(-1), (), rfl, Or.inl (⟨c1_, rfl⟩), trivial⟩, hS.F ht⟩) hS.2.2 dX11_call_22
  · skip
    refine lv_istore (lv' := [(5, .int (-1)), (0, .ref (a 0)), (1, .int p0), (2, .int p1), (3, .int p2), (4, .int p3)]) hx hb dX11_call_9 hl (by decide) rfl (fun ls hl => ?_)
    refine lv_iload hx hb dX11_call_11 (lv_at hl 0 rfl) ?_
    refine lv_if_eq (tgt := 23) hx hb dX11_call_13 (by decide) (fun c9_ => absurd c9_ (by decide)) (fun _ => ?_)
    refine lv_aload_n hx hb dX11_call_16 rfl (lv_at hl 1 rfl) ?_
    refine lv_iload hx hb dX11_call_17 (lv_at hl 0 rfl) ?_
    have hPc : va_P (dC, dI) vwCl ([(a 0, .inr (11, [.ref (a 1), .ref (a 60), .ref (a 21), .ref (a 24), .ref (a 28), .ref (a 30), .ref (a 31), .ref (a 32), .ref (a 55), .int 0, .int (-1)])), (a 55, .inl (cy 0, 7, .inl (fun _ => 0)))]) _ := hP.sub [0, 55] rfl
    have hDc := hD.sub (ws' := [(a 0, .inr (11, [.ref (a 1), .ref (a 60), .ref (a 21), .ref (a 24), .ref (a 28), .ref (a 30), .ref (a 31), .ref (a 32), .ref (a 55), .int 0, .int (-1)])), (a 55, .inl (cy 0, 7, .inl (fun _ => 0)))]) [0, 55] (by decide) rfl
    have hFc := va_free (wc := [(a 0, .inr (11, [.ref (a 1), .ref (a 60), .ref (a 21), .ref (a 24), .ref (a 28), .ref (a 30), .ref (a 31), .ref (a 32), .ref (a 55), .int 0, .int (-1)])), (a 55, .inl (cy 0, 7, .inl (fun _ => 0)))]) hD hS hA [0, 55] rfl
    refine va_calli (va_runV (As := [.int (-1)]) (rest := []) ⟨hx, hb, hml, hown, hts⟩ (c_X11_refuse l dC dI cy a g _ (-1) (-1)) (cwV 1 hts g_X11_call_X11_refuse_89 rfl rfl rfl (by decide +kernel) ⟨Nat.le_of_ble_eq_true rfl, Nat.le_of_ble_eq_true rfl⟩) (pv_ps hC hPc hDc (ci := 11) (q0 := 0) rfl rfl) rfl rfl hl.1 rfl (lv_room (Nat.le_of_ble_eq_true rfl)) dX11_call_19 ⟨Nat.le_of_ble_eq_true rfl, Nat.le_of_ble_eq_true rfl⟩) hS (fun q _ h => hFc q h) hFc (fun r_ u t_ H1 locs ht hvm hw hB hz1 hk1 hS => ?_)
    obtain ⟨hP, hD⟩ := va_join (wr := []) (w1 := []) hP hD [0, 55] [] rfl rfl (by decide) (by decide) hk1 hFc va_P0 va_D0
    generalize H1 = H at hP hS ⊢
    have hP : va_P (dC, dI) vwCl ([]) H := hP
    have hD : va_D A ([]) := hD
    rcases hw with ⟨c49_, rfl⟩ | ⟨-, c51_, rfl⟩ | ⟨-, -, rfl⟩
    · skip
      exact absurd c49_ (by decide)
    · skip
      exact absurd c51_ (by decide)
    · skip
      exact W.iret (v := (-1)) hx hb hr (fun t ht hW => ⟨⟨(-1), (), rfl, Or.inr (Or.inl (⟨c2_, c3_, rfl⟩)), trivial⟩, hS.F ht⟩) hS.2.2 dX11_call_22
  · skip
    refine lv_istore (lv' := [(5, .int (-1)), (0, .ref (a 0)), (1, .int p0), (2, .int p1), (3, .int p2), (4, .int p3)]) hx hb dX11_call_9 hl (by decide) rfl (fun ls hl => ?_)
    refine lv_iload hx hb dX11_call_11 (lv_at hl 0 rfl) ?_
    refine lv_if_eq (tgt := 23) hx hb dX11_call_13 (by decide) (fun c9_ => absurd c9_ (by decide)) (fun _ => ?_)
    refine lv_aload_n hx hb dX11_call_16 rfl (lv_at hl 1 rfl) ?_
    refine lv_iload hx hb dX11_call_17 (lv_at hl 0 rfl) ?_
    have hPc : va_P (dC, dI) vwCl ([(a 0, .inr (11, [.ref (a 1), .ref (a 60), .ref (a 21), .ref (a 24), .ref (a 28), .ref (a 30), .ref (a 31), .ref (a 32), .ref (a 55), .int 0, .int (-1)])), (a 55, .inl (cy 0, 7, .inl (fun _ => 0)))]) _ := hP.sub [0, 55] rfl
    have hDc := hD.sub (ws' := [(a 0, .inr (11, [.ref (a 1), .ref (a 60), .ref (a 21), .ref (a 24), .ref (a 28), .ref (a 30), .ref (a 31), .ref (a 32), .ref (a 55), .int 0, .int (-1)])), (a 55, .inl (cy 0, 7, .inl (fun _ => 0)))]) [0, 55] (by decide) rfl
    have hFc := va_free (wc := [(a 0, .inr (11, [.ref (a 1), .ref (a 60), .ref (a 21), .ref (a 24), .ref (a 28), .ref (a 30), .ref (a 31), .ref (a 32), .ref (a 55), .int 0, .int (-1)])), (a 55, .inl (cy 0, 7, .inl (fun _ => 0)))]) hD hS hA [0, 55] rfl
    refine va_calli (va_runV (As := [.int (-1)]) (rest := []) ⟨hx, hb, hml, hown, hts⟩ (c_X11_refuse l dC dI cy a g _ (-1) (-1)) (cwV 1 hts g_X11_call_X11_refuse_89 rfl rfl rfl (by decide +kernel) ⟨Nat.le_of_ble_eq_true rfl, Nat.le_of_ble_eq_true rfl⟩) (pv_ps hC hPc hDc (ci := 11) (q0 := 0) rfl rfl) rfl rfl hl.1 rfl (lv_room (Nat.le_of_ble_eq_true rfl)) dX11_call_19 ⟨Nat.le_of_ble_eq_true rfl, Nat.le_of_ble_eq_true rfl⟩) hS (fun q _ h => hFc q h) hFc (fun r_ u t_ H1 locs ht hvm hw hB hz1 hk1 hS => ?_)
    obtain ⟨hP, hD⟩ := va_join (wr := []) (w1 := []) hP hD [0, 55] [] rfl rfl (by decide) (by decide) hk1 hFc va_P0 va_D0
    generalize H1 = H at hP hS ⊢
    have hP : va_P (dC, dI) vwCl ([]) H := hP
    have hD : va_D A ([]) := hD
    rcases hw with ⟨c54_, rfl⟩ | ⟨-, c56_, rfl⟩ | ⟨-, -, rfl⟩
    · skip
      exact absurd c54_ (by decide)
    · skip
      exact absurd c56_ (by decide)
    · skip
      exact W.iret (v := (-1)) hx hb hr (fun t ht hW => ⟨⟨(-1), (), rfl, Or.inr (Or.inr (Or.inl (⟨c4_, c5_, c6_, rfl⟩))), trivial⟩, hS.F ht⟩) hS.2.2 dX11_call_22
  · skip
    refine lv_istore (lv' := [(5, .int (-1)), (0, .ref (a 0)), (1, .int p0), (2, .int p1), (3, .int p2), (4, .int p3)]) hx hb dX11_call_9 hl (by decide) rfl (fun ls hl => ?_)
    refine lv_iload hx hb dX11_call_11 (lv_at hl 0 rfl) ?_
    refine lv_if_eq (tgt := 23) hx hb dX11_call_13 (by decide) (fun c9_ => absurd c9_ (by decide)) (fun _ => ?_)
    refine lv_aload_n hx hb dX11_call_16 rfl (lv_at hl 1 rfl) ?_
    refine lv_iload hx hb dX11_call_17 (lv_at hl 0 rfl) ?_
    have hPc : va_P (dC, dI) vwCl ([(a 0, .inr (11, [.ref (a 1), .ref (a 60), .ref (a 21), .ref (a 24), .ref (a 28), .ref (a 30), .ref (a 31), .ref (a 32), .ref (a 55), .int 0, .int (-1)])), (a 55, .inl (cy 0, 7, .inl (fun _ => 0)))]) _ := hP.sub [0, 55] rfl
    have hDc := hD.sub (ws' := [(a 0, .inr (11, [.ref (a 1), .ref (a 60), .ref (a 21), .ref (a 24), .ref (a 28), .ref (a 30), .ref (a 31), .ref (a 32), .ref (a 55), .int 0, .int (-1)])), (a 55, .inl (cy 0, 7, .inl (fun _ => 0)))]) [0, 55] (by decide) rfl
    have hFc := va_free (wc := [(a 0, .inr (11, [.ref (a 1), .ref (a 60), .ref (a 21), .ref (a 24), .ref (a 28), .ref (a 30), .ref (a 31), .ref (a 32), .ref (a 55), .int 0, .int (-1)])), (a 55, .inl (cy 0, 7, .inl (fun _ => 0)))]) hD hS hA [0, 55] rfl
    refine va_calli (va_runV (As := [.int (-1)]) (rest := []) ⟨hx, hb, hml, hown, hts⟩ (c_X11_refuse l dC dI cy a g _ (-1) (-1)) (cwV 1 hts g_X11_call_X11_refuse_89 rfl rfl rfl (by decide +kernel) ⟨Nat.le_of_ble_eq_true rfl, Nat.le_of_ble_eq_true rfl⟩) (pv_ps hC hPc hDc (ci := 11) (q0 := 0) rfl rfl) rfl rfl hl.1 rfl (lv_room (Nat.le_of_ble_eq_true rfl)) dX11_call_19 ⟨Nat.le_of_ble_eq_true rfl, Nat.le_of_ble_eq_true rfl⟩) hS (fun q _ h => hFc q h) hFc (fun r_ u t_ H1 locs ht hvm hw hB hz1 hk1 hS => ?_)
    obtain ⟨hP, hD⟩ := va_join (wr := []) (w1 := []) hP hD [0, 55] [] rfl rfl (by decide) (by decide) hk1 hFc va_P0 va_D0
    generalize H1 = H at hP hS ⊢
    have hP : va_P (dC, dI) vwCl ([]) H := hP
    have hD : va_D A ([]) := hD
    rcases hw with ⟨c59_, rfl⟩ | ⟨-, c61_, rfl⟩ | ⟨-, -, rfl⟩
    · skip
      exact absurd c59_ (by decide)
    · skip
      exact absurd c61_ (by decide)
    · skip
      exact W.iret (v := (-1)) hx hb hr (fun t ht hW => ⟨⟨(-1), (), rfl, Or.inr (Or.inr (Or.inr (Or.inl (⟨c7_, c8_, c9_, c10_, rfl⟩)))), trivial⟩, hS.F ht⟩) hS.2.2 dX11_call_22
  · skip
    refine lv_istore (lv' := [(5, .int (-1)), (0, .ref (a 0)), (1, .int p0), (2, .int p1), (3, .int p2), (4, .int p3)]) hx hb dX11_call_9 hl (by decide) rfl (fun ls hl => ?_)
    refine lv_iload hx hb dX11_call_11 (lv_at hl 0 rfl) ?_
    refine lv_if_eq (tgt := 23) hx hb dX11_call_13 (by decide) (fun c9_ => absurd c9_ (by decide)) (fun _ => ?_)
    refine lv_aload_n hx hb dX11_call_16 rfl (lv_at hl 1 rfl) ?_
    refine lv_iload hx hb dX11_call_17 (lv_at hl 0 rfl) ?_
    have hPc : va_P (dC, dI) vwCl ([(a 0, .inr (11, [.ref (a 1), .ref (a 60), .ref (a 21), .ref (a 24), .ref (a 28), .ref (a 30), .ref (a 31), .ref (a 32), .ref (a 55), .int 0, .int (-1)])), (a 55, .inl (cy 0, 7, .inl (fun _ => 0)))]) _ := hP.sub [0, 55] rfl
    have hDc := hD.sub (ws' := [(a 0, .inr (11, [.ref (a 1), .ref (a 60), .ref (a 21), .ref (a 24), .ref (a 28), .ref (a 30), .ref (a 31), .ref (a 32), .ref (a 55), .int 0, .int (-1)])), (a 55, .inl (cy 0, 7, .inl (fun _ => 0)))]) [0, 55] (by decide) rfl
    have hFc := va_free (wc := [(a 0, .inr (11, [.ref (a 1), .ref (a 60), .ref (a 21), .ref (a 24), .ref (a 28), .ref (a 30), .ref (a 31), .ref (a 32), .ref (a 55), .int 0, .int (-1)])), (a 55, .inl (cy 0, 7, .inl (fun _ => 0)))]) hD hS hA [0, 55] rfl
    refine va_calli (va_runV (As := [.int (-1)]) (rest := []) ⟨hx, hb, hml, hown, hts⟩ (c_X11_refuse l dC dI cy a g _ (-1) (-1)) (cwV 1 hts g_X11_call_X11_refuse_89 rfl rfl rfl (by decide +kernel) ⟨Nat.le_of_ble_eq_true rfl, Nat.le_of_ble_eq_true rfl⟩) (pv_ps hC hPc hDc (ci := 11) (q0 := 0) rfl rfl) rfl rfl hl.1 rfl (lv_room (Nat.le_of_ble_eq_true rfl)) dX11_call_19 ⟨Nat.le_of_ble_eq_true rfl, Nat.le_of_ble_eq_true rfl⟩) hS (fun q _ h => hFc q h) hFc (fun r_ u t_ H1 locs ht hvm hw hB hz1 hk1 hS => ?_)
    obtain ⟨hP, hD⟩ := va_join (wr := []) (w1 := []) hP hD [0, 55] [] rfl rfl (by decide) (by decide) hk1 hFc va_P0 va_D0
    generalize H1 = H at hP hS ⊢
    have hP : va_P (dC, dI) vwCl ([]) H := hP
    have hD : va_D A ([]) := hD
    rcases hw with ⟨c64_, rfl⟩ | ⟨-, c66_, rfl⟩ | ⟨-, -, rfl⟩
    · skip
      exact absurd c64_ (by decide)
    · skip
      exact absurd c66_ (by decide)
    · skip
      exact W.iret (v := (-1)) hx hb hr (fun t ht hW => ⟨⟨(-1), (), rfl, Or.inr (Or.inr (Or.inr (Or.inr (Or.inl (⟨c11_, c12_, c13_, c14_, c15_, rfl⟩))))), trivial⟩, hS.F ht⟩) hS.2.2 dX11_call_22
  · skip
    refine lv_istore (lv' := [(5, .int (-1)), (0, .ref (a 0)), (1, .int p0), (2, .int p1), (3, .int p2), (4, .int p3)]) hx hb dX11_call_9 hl (by decide) rfl (fun ls hl => ?_)
    refine lv_iload hx hb dX11_call_11 (lv_at hl 0 rfl) ?_
    refine lv_if_eq (tgt := 23) hx hb dX11_call_13 (by decide) (fun c9_ => absurd c9_ (by decide)) (fun _ => ?_)
    refine lv_aload_n hx hb dX11_call_16 rfl (lv_at hl 1 rfl) ?_
    refine lv_iload hx hb dX11_call_17 (lv_at hl 0 rfl) ?_
    have hPc : va_P (dC, dI) vwCl ([(a 0, .inr (11, [.ref (a 1), .ref (a 60), .ref (a 21), .ref (a 24), .ref (a 28), .ref (a 30), .ref (a 31), .ref (a 32), .ref (a 55), .int 0, .int (-1)])), (a 55, .inl (cy 0, 7, .inl (fun _ => 0)))]) _ := hP.sub [0, 55] rfl
    have hDc := hD.sub (ws' := [(a 0, .inr (11, [.ref (a 1), .ref (a 60), .ref (a 21), .ref (a 24), .ref (a 28), .ref (a 30), .ref (a 31), .ref (a 32), .ref (a 55), .int 0, .int (-1)])), (a 55, .inl (cy 0, 7, .inl (fun _ => 0)))]) [0, 55] (by decide) rfl
    have hFc := va_free (wc := [(a 0, .inr (11, [.ref (a 1), .ref (a 60), .ref (a 21), .ref (a 24), .ref (a 28), .ref (a 30), .ref (a 31), .ref (a 32), .ref (a 55), .int 0, .int (-1)])), (a 55, .inl (cy 0, 7, .inl (fun _ => 0)))]) hD hS hA [0, 55] rfl
    refine va_calli (va_runV (As := [.int (-1)]) (rest := []) ⟨hx, hb, hml, hown, hts⟩ (c_X11_refuse l dC dI cy a g _ (-1) (-1)) (cwV 1 hts g_X11_call_X11_refuse_89 rfl rfl rfl (by decide +kernel) ⟨Nat.le_of_ble_eq_true rfl, Nat.le_of_ble_eq_true rfl⟩) (pv_ps hC hPc hDc (ci := 11) (q0 := 0) rfl rfl) rfl rfl hl.1 rfl (lv_room (Nat.le_of_ble_eq_true rfl)) dX11_call_19 ⟨Nat.le_of_ble_eq_true rfl, Nat.le_of_ble_eq_true rfl⟩) hS (fun q _ h => hFc q h) hFc (fun r_ u t_ H1 locs ht hvm hw hB hz1 hk1 hS => ?_)
    obtain ⟨hP, hD⟩ := va_join (wr := []) (w1 := []) hP hD [0, 55] [] rfl rfl (by decide) (by decide) hk1 hFc va_P0 va_D0
    generalize H1 = H at hP hS ⊢
    have hP : va_P (dC, dI) vwCl ([]) H := hP
    have hD : va_D A ([]) := hD
    rcases hw with ⟨c69_, rfl⟩ | ⟨-, c71_, rfl⟩ | ⟨-, -, rfl⟩
    · skip
      exact absurd c69_ (by decide)
    · skip
      exact absurd c71_ (by decide)
    · skip
      exact W.iret (v := (-1)) hx hb hr (fun t ht hW => ⟨⟨(-1), (), rfl, Or.inr (Or.inr (Or.inr (Or.inr (Or.inr (Or.inl (⟨c16_, c17_, c18_, c19_, c20_, c21_, rfl⟩)))))), trivial⟩, hS.F ht⟩) hS.2.2 dX11_call_22
  · skip
    refine lv_istore (lv' := [(5, .int (-2)), (0, .ref (a 0)), (1, .int p0), (2, .int p1), (3, .int p2), (4, .int p3)]) hx hb dX11_call_9 hl (by decide) rfl (fun ls hl => ?_)
    refine lv_iload hx hb dX11_call_11 (lv_at hl 0 rfl) ?_
    refine lv_if_eq (tgt := 23) hx hb dX11_call_13 (by decide) (fun c9_ => absurd c9_ (by decide)) (fun _ => ?_)
    refine lv_aload_n hx hb dX11_call_16 rfl (lv_at hl 1 rfl) ?_
    refine lv_iload hx hb dX11_call_17 (lv_at hl 0 rfl) ?_
    have hPc : va_P (dC, dI) vwCl ([(a 0, .inr (11, [.ref (a 1), .ref (a 60), .ref (a 21), .ref (a 24), .ref (a 28), .ref (a 30), .ref (a 31), .ref (a 32), .ref (a 55), .int 0, .int (-1)])), (a 55, .inl (cy 0, 7, .inl (fun _ => 0)))]) _ := hP.sub [0, 55] rfl
    have hDc := hD.sub (ws' := [(a 0, .inr (11, [.ref (a 1), .ref (a 60), .ref (a 21), .ref (a 24), .ref (a 28), .ref (a 30), .ref (a 31), .ref (a 32), .ref (a 55), .int 0, .int (-1)])), (a 55, .inl (cy 0, 7, .inl (fun _ => 0)))]) [0, 55] (by decide) rfl
    have hFc := va_free (wc := [(a 0, .inr (11, [.ref (a 1), .ref (a 60), .ref (a 21), .ref (a 24), .ref (a 28), .ref (a 30), .ref (a 31), .ref (a 32), .ref (a 55), .int 0, .int (-1)])), (a 55, .inl (cy 0, 7, .inl (fun _ => 0)))]) hD hS hA [0, 55] rfl
    refine va_calli (va_runV (As := [.int (-2)]) (rest := []) ⟨hx, hb, hml, hown, hts⟩ (c_X11_refuse l dC dI cy a g _ (-2) (-1)) (cwV 1 hts g_X11_call_X11_refuse_89 rfl rfl rfl (by decide +kernel) ⟨Nat.le_of_ble_eq_true rfl, Nat.le_of_ble_eq_true rfl⟩) (pv_ps hC hPc hDc (ci := 11) (q0 := 0) rfl rfl) rfl rfl hl.1 rfl (lv_room (Nat.le_of_ble_eq_true rfl)) dX11_call_19 ⟨Nat.le_of_ble_eq_true rfl, Nat.le_of_ble_eq_true rfl⟩) hS (fun q _ h => hFc q h) hFc (fun r_ u t_ H1 locs ht hvm hw hB hz1 hk1 hS => ?_)
    obtain ⟨hP, hD⟩ := va_join (wr := []) (w1 := []) hP hD [0, 55] [] rfl rfl (by decide) (by decide) hk1 hFc va_P0 va_D0
    generalize H1 = H at hP hS ⊢
    have hP : va_P (dC, dI) vwCl ([]) H := hP
    have hD : va_D A ([]) := hD
    rcases hw with ⟨c74_, rfl⟩ | ⟨-, c76_, rfl⟩ | ⟨-, -, rfl⟩
    · skip
      exact absurd c74_ (by decide)
    · skip
      exact absurd c76_ (by decide)
    · skip
      exact W.iret (v := (-2)) hx hb hr (fun t ht hW => ⟨⟨(-2), (), rfl, Or.inr (Or.inr (Or.inr (Or.inr (Or.inr (Or.inr (Or.inl (⟨c22_, c23_, c24_, c25_, c26_, c27_, c28_, rfl⟩))))))), trivial⟩, hS.F ht⟩) hS.2.2 dX11_call_22
  · skip
    refine lv_istore (lv' := [(5, .int (-2)), (0, .ref (a 0)), (1, .int p0), (2, .int p1), (3, .int p2), (4, .int p3)]) hx hb dX11_call_9 hl (by decide) rfl (fun ls hl => ?_)
    refine lv_iload hx hb dX11_call_11 (lv_at hl 0 rfl) ?_
    refine lv_if_eq (tgt := 23) hx hb dX11_call_13 (by decide) (fun c9_ => absurd c9_ (by decide)) (fun _ => ?_)
    refine lv_aload_n hx hb dX11_call_16 rfl (lv_at hl 1 rfl) ?_
    refine lv_iload hx hb dX11_call_17 (lv_at hl 0 rfl) ?_
    have hPc : va_P (dC, dI) vwCl ([(a 0, .inr (11, [.ref (a 1), .ref (a 60), .ref (a 21), .ref (a 24), .ref (a 28), .ref (a 30), .ref (a 31), .ref (a 32), .ref (a 55), .int 0, .int (-1)])), (a 55, .inl (cy 0, 7, .inl (fun _ => 0)))]) _ := hP.sub [0, 55] rfl
    have hDc := hD.sub (ws' := [(a 0, .inr (11, [.ref (a 1), .ref (a 60), .ref (a 21), .ref (a 24), .ref (a 28), .ref (a 30), .ref (a 31), .ref (a 32), .ref (a 55), .int 0, .int (-1)])), (a 55, .inl (cy 0, 7, .inl (fun _ => 0)))]) [0, 55] (by decide) rfl
    have hFc := va_free (wc := [(a 0, .inr (11, [.ref (a 1), .ref (a 60), .ref (a 21), .ref (a 24), .ref (a 28), .ref (a 30), .ref (a 31), .ref (a 32), .ref (a 55), .int 0, .int (-1)])), (a 55, .inl (cy 0, 7, .inl (fun _ => 0)))]) hD hS hA [0, 55] rfl
    refine va_calli (va_runV (As := [.int (-2)]) (rest := []) ⟨hx, hb, hml, hown, hts⟩ (c_X11_refuse l dC dI cy a g _ (-2) (-1)) (cwV 1 hts g_X11_call_X11_refuse_89 rfl rfl rfl (by decide +kernel) ⟨Nat.le_of_ble_eq_true rfl, Nat.le_of_ble_eq_true rfl⟩) (pv_ps hC hPc hDc (ci := 11) (q0 := 0) rfl rfl) rfl rfl hl.1 rfl (lv_room (Nat.le_of_ble_eq_true rfl)) dX11_call_19 ⟨Nat.le_of_ble_eq_true rfl, Nat.le_of_ble_eq_true rfl⟩) hS (fun q _ h => hFc q h) hFc (fun r_ u t_ H1 locs ht hvm hw hB hz1 hk1 hS => ?_)
    obtain ⟨hP, hD⟩ := va_join (wr := []) (w1 := []) hP hD [0, 55] [] rfl rfl (by decide) (by decide) hk1 hFc va_P0 va_D0
    generalize H1 = H at hP hS ⊢
    have hP : va_P (dC, dI) vwCl ([]) H := hP
    have hD : va_D A ([]) := hD
    rcases hw with ⟨c79_, rfl⟩ | ⟨-, c81_, rfl⟩ | ⟨-, -, rfl⟩
    · skip
      exact absurd c79_ (by decide)
    · skip
      exact absurd c81_ (by decide)
    · skip
      exact W.iret (v := (-2)) hx hb hr (fun t ht hW => ⟨⟨(-2), (), rfl, Or.inr (Or.inr (Or.inr (Or.inr (Or.inr (Or.inr (Or.inr (Or.inl (⟨c29_, c30_, c31_, c32_, c33_, c34_, c35_, c36_, rfl⟩)))))))), trivial⟩, hS.F ht⟩) hS.2.2 dX11_call_22
  · skip
    subst c43_
    refine lv_istore (lv' := [(5, .int (-2)), (0, .ref (a 0)), (1, .int 0), (2, .int p1), (3, .int p2), (4, .int p3)]) hx hb dX11_call_9 hl (by decide) rfl (fun ls hl => ?_)
    refine lv_iload hx hb dX11_call_11 (lv_at hl 0 rfl) ?_
    refine lv_if_eq (tgt := 23) hx hb dX11_call_13 (by decide) (fun c9_ => absurd c9_ (by decide)) (fun _ => ?_)
    refine lv_aload_n hx hb dX11_call_16 rfl (lv_at hl 1 rfl) ?_
    refine lv_iload hx hb dX11_call_17 (lv_at hl 0 rfl) ?_
    have hPc : va_P (dC, dI) vwCl ([(a 0, .inr (11, [.ref (a 1), .ref (a 60), .ref (a 21), .ref (a 24), .ref (a 28), .ref (a 30), .ref (a 31), .ref (a 32), .ref (a 55), .int 0, .int (-1)])), (a 55, .inl (cy 0, 7, .inl (fun _ => 0)))]) _ := hP.sub [0, 55] rfl
    have hDc := hD.sub (ws' := [(a 0, .inr (11, [.ref (a 1), .ref (a 60), .ref (a 21), .ref (a 24), .ref (a 28), .ref (a 30), .ref (a 31), .ref (a 32), .ref (a 55), .int 0, .int (-1)])), (a 55, .inl (cy 0, 7, .inl (fun _ => 0)))]) [0, 55] (by decide) rfl
    have hFc := va_free (wc := [(a 0, .inr (11, [.ref (a 1), .ref (a 60), .ref (a 21), .ref (a 24), .ref (a 28), .ref (a 30), .ref (a 31), .ref (a 32), .ref (a 55), .int 0, .int (-1)])), (a 55, .inl (cy 0, 7, .inl (fun _ => 0)))]) hD hS hA [0, 55] rfl
    refine va_calli (va_runV (As := [.int (-2)]) (rest := []) ⟨hx, hb, hml, hown, hts⟩ (c_X11_refuse l dC dI cy a g _ (-2) (-1)) (cwV 1 hts g_X11_call_X11_refuse_89 rfl rfl rfl (by decide +kernel) ⟨Nat.le_of_ble_eq_true rfl, Nat.le_of_ble_eq_true rfl⟩) (pv_ps hC hPc hDc (ci := 11) (q0 := 0) rfl rfl) rfl rfl hl.1 rfl (lv_room (Nat.le_of_ble_eq_true rfl)) dX11_call_19 ⟨Nat.le_of_ble_eq_true rfl, Nat.le_of_ble_eq_true rfl⟩) hS (fun q _ h => hFc q h) hFc (fun r_ u t_ H1 locs ht hvm hw hB hz1 hk1 hS => ?_)
    obtain ⟨hP, hD⟩ := va_join (wr := []) (w1 := []) hP hD [0, 55] [] rfl rfl (by decide) (by decide) hk1 hFc va_P0 va_D0
    generalize H1 = H at hP hS ⊢
    have hP : va_P (dC, dI) vwCl ([]) H := hP
    have hD : va_D A ([]) := hD
    rcases hw with ⟨c84_, rfl⟩ | ⟨-, c86_, rfl⟩ | ⟨-, -, rfl⟩
    · skip
      exact absurd c84_ (by decide)
    · skip
      exact absurd c86_ (by decide)
    · skip
      exact W.iret (v := (-2)) hx hb hr (fun t ht hW => ⟨⟨(-2), (), rfl, Or.inr (Or.inr (Or.inr (Or.inr (Or.inr (Or.inr (Or.inr (Or.inr (⟨c37_, c38_, c39_, c40_, c41_, c42_, rfl, rfl⟩)))))))), trivial⟩, hS.F ht⟩) hS.2.2 dX11_call_22

theorem dX11_store_0 : decode cX11_store 0 = .ok (.iload_n 2, 1) := by decide +kernel
theorem dX11_store_1 : decode cX11_store 1 = .ok (.invokestatic 123, 3) := by decide +kernel
theorem dX11_store_4 : decode cX11_store 4 = .ok (.ifCond .ne 9, 3) := by decide +kernel
theorem dX11_store_7 : decode cX11_store 7 = .ok (.aload_n 0, 1) := by decide +kernel
theorem dX11_store_8 : decode cX11_store 8 = .ok (.iconst (-1), 1) := by decide +kernel
theorem dX11_store_9 : decode cX11_store 9 = .ok (.invokevirtual 89, 3) := by decide +kernel
theorem dX11_store_12 : decode cX11_store 12 = .ok (.ireturn, 1) := by decide +kernel
theorem dX11_store_13 : decode cX11_store 13 = .ok (.aload_n 0, 1) := by decide +kernel
theorem dX11_store_14 : decode cX11_store 14 = .ok (.getfield 24, 3) := by decide +kernel
theorem dX11_store_17 : decode cX11_store 17 = .ok (.iload_n 1, 1) := by decide +kernel
theorem dX11_store_18 : decode cX11_store 18 = .ok (.invokevirtual 127, 3) := by decide +kernel
theorem dX11_store_21 : decode cX11_store 21 = .ok (.ifCond .ne 10, 3) := by decide +kernel
theorem dX11_store_24 : decode cX11_store 24 = .ok (.aload_n 0, 1) := by decide +kernel
theorem dX11_store_25 : decode cX11_store 25 = .ok (.bipush (-2), 2) := by decide +kernel
theorem dX11_store_27 : decode cX11_store 27 = .ok (.invokevirtual 89, 3) := by decide +kernel
theorem dX11_store_30 : decode cX11_store 30 = .ok (.ireturn, 1) := by decide +kernel
def v_X11_store : List Cond := .code yX11_store cX11_store 4 (some .int) :: ([.fieldLink RX11 24 "RestBoard" "tree" "LRestBoard$Tree;", .methodLink RX11 123 yX11_isValue, .static yX11_isValue, .initialized RX11, .code yX11_isValue cX11_isValue 1 (some .boolean), .constant RX11 296 (65536), .methodLink RX11 89 yX11_refuse, .instanceMethod yX11_refuse, .selects RX11 yX11_refuse yX11_refuse, .code yX11_refuse cX11_refuse 3 (some .int), .fieldLink RX11 293 "RestBoard" "refusedBy" "I", .fieldLink RX11 69 "RestBoard" "refusals" "[I", .methodLink RX11 127 yX10_holdsValue, .instanceMethod yX10_holdsValue, .selects RX10 yX10_holdsValue yX10_holdsValue, .initialized RX10, .code yX10_holdsValue cX10_holdsValue 2 (some .boolean), .methodLink RX10 39 yX10_is, .instanceMethod yX10_is, .selects RX10 yX10_is yX10_is, .code yX10_is cX10_is 3 (some .boolean), .fieldLink RX10 11 "RestBoard$Tree" "nodes" "[LRestBoard$Node;", .fieldLink RX10 36 "RestBoard$Node" "kind" "I", .methodLink RX10 32 yX10_has, .instanceMethod yX10_has, .selects RX10 yX10_has yX10_has, .code yX10_has cX10_has 2 (some .boolean), .fieldLink RX10 17 "RestBoard$Tree" "now" "LRestBoard$State;", .fieldLink RX10 26 "RestBoard$State" "size" "I"] ++ wsX110 ++ wsX100 ++ wsX40 ++ wsX80)
theorem m_X11_store_0 : (.fieldLink RX11 24 "RestBoard" "tree" "LRestBoard$Tree;" : Cond) ∈ v_X11_store := List.mem_of_getElem? (i := 1) (by decide +kernel)
theorem i_X11_store_X11 : ∀ w ∈ u_ws RX11 TX11 11, w ∈ v_X11_store := fun w h => List.mem_cons_of_mem _ (List.mem_append_left _ (List.mem_append_left _ (List.mem_append_left _ (List.mem_append_right _ h))))
set_option maxRecDepth 100000 in
theorem gg_X11_store_X11_isValue_123 : GoodIn v_X11_store v_X11_isValue := goodIn_r _ [5, 6] (by decide +kernel) (by decide +kernel)
set_option maxRecDepth 100000 in
theorem g_X11_store_X11_isValue_123 : GoodIn v_X11_store (va_wsS RX11 123 yX11_isValue v_X11_isValue) := goodIn_app (goodIn_r _ [2, 3, 4] (by decide +kernel) (by decide +kernel)) gg_X11_store_X11_isValue_123
set_option maxRecDepth 100000 in
theorem gg_X11_store_X11_refuse_89 : GoodIn v_X11_store v_X11_refuse := goodIn_r _ [10, 11, 12, 30, 31, 32, 33, 34, 35, 36, 37, 38, 39, 40] (by decide +kernel) (by decide +kernel)
set_option maxRecDepth 100000 in
theorem g_X11_store_X11_refuse_89 : GoodIn v_X11_store (wsV RX11 89 RX11 yX11_refuse v_X11_refuse) := goodIn_app (goodIn_r _ [7, 8, 9, 4] (by decide +kernel) (by decide +kernel)) gg_X11_store_X11_refuse_89
set_option maxRecDepth 100000 in
theorem gg_X11_store_X10_holdsValue_127 : GoodIn v_X11_store v_X10_holdsValue := goodIn_r _ [17, 18, 19, 20, 16, 21, 22, 23, 24, 25, 26, 27, 28, 29, 41, 42, 43, 44, 45, 46, 47, 48, 49, 50, 51, 52, 53, 54, 55, 56, 57, 58, 59, 60, 61, 62, 63, 64, 65, 66, 67, 68, 69, 70, 71, 72, 73] (by decide +kernel) (by decide +kernel)
set_option maxRecDepth 100000 in
theorem g_X11_store_X10_holdsValue_127 : GoodIn v_X11_store (wsV RX11 127 RX10 yX10_holdsValue v_X10_holdsValue) := goodIn_app (goodIn_r _ [13, 14, 15, 16] (by decide +kernel) (by decide +kernel)) gg_X11_store_X10_holdsValue_127
set_option maxHeartbeats 4000000 in
set_option maxRecDepth 100000 in
theorem c_X11_store (l : Launch) (dC : Nat → ClassId) (dI : Nat → Nat → Nat) (cy : Nat → ClassId) (a : Nat → Nat) (g : Nat → Nat → Option Nat) (sz : Nat) (p0 p1 : Int32) : Met l yX11_store v_X11_store ({ frames := 3, cells := 0, slots := 0, locals := 64 }) (va_Pc [.ref (a 0), .int p0, .int p1] (ps dC dI cy (fw a cy g) sz)) (va_Qi (fun (r : Int32) (_ : Unit) => ((p1 < 0) ∧ r = (-1)) ∨ ((¬ p1 < 0) ∧ ((65536 : Int32) ≤ p1) ∧ r = (-1)) ∨ ((¬ p1 < 0) ∧ (¬ (65536 : Int32) ≤ p1) ∧ (p0 < 0) ∧ r = (-2)) ∨ ((¬ p1 < 0) ∧ (¬ (65536 : Int32) ≤ p1) ∧ (¬ p0 < 0) ∧ ((1 : Int32) ≤ p0) ∧ r = (-2)) ∨ ((¬ p1 < 0) ∧ (¬ (65536 : Int32) ≤ p1) ∧ (p0 = 0) ∧ r = (-2))) (fun _ _ => True) (va_A (fw a cy g) sz)) 0 0 (va_A (fw a cy g) sz) := by
  refine Met.ofW (cc := cX11_store) (maxL := 4) (ret := (some .int)) (by decide) rfl ?_
  intro p e s m args below meth c s₁ B hml hv
  obtain ⟨rfl, hsz, hP, hC, hD0⟩ := hv
  have hK := hC.1
  have hx := B.exec
  have hb := B.bytes
  have hr := B.returns
  have hts := atoms_spec (ws := v_X11_store) B.pre
  have hown : s.vm.findClass RX11 = some m.cls := findClass_of_methodNamed B.named
  have hlocks := B.notSynchronized
  subst hsz
  have hD := hD0.self (sz := s.heap.size)
  generalize hAe : va_A (fw a cy g) s.heap.size = A at hD ⊢
  have hA : ∀ q : Nat, s.heap.size ≤ q → A q := fun q h => by rw [← hAe]; exact Or.inr h
  have hS : va_S A s.heap s.heap [] := va_S.rf
  have hl := lv_entry ([.ref (a 0), .int p0, .int p1]) (n := 4) (Nat.le_of_ble_eq_true rfl)
  rw [lg_entry_eq]
  generalize (lg_sl ([.ref (a 0), .int p0, .int p1]) ++ List.replicate (4 - (lg_sl ([.ref (a 0), .int p0, .int p1])).length) Slot.unset).toArray = ls at hl ⊢
  have hl : lv_has ls 4 [(0, .ref (a 0)), (1, .int p0), (2, .int p1)] := hl
  refine lv_iload_n hx hb dX11_store_0 rfl (lv_at hl 2 rfl) ?_
  refine tk_pi (va_runS (As := [.int p1]) (rest := []) ⟨hx, hb, hml, hown, hts⟩ (c_X11_isValue l dC dI cy  p1) (va_cwS 1 hts g_X11_store_X11_isValue_123 rfl rfl rfl (by decide +kernel) ⟨Nat.le_of_ble_eq_true rfl, Nat.le_of_ble_eq_true rfl⟩) (pS_pp hC va_P0) rfl rfl hl.1 rfl (lv_room (Nat.le_of_ble_eq_true rfl)) dX11_store_1 ⟨Nat.le_of_ble_eq_true rfl, Nat.le_of_ble_eq_true rfl⟩) hP hS (fun r_ H locs hw hP hS => ?_)
  rcases hw with ⟨c1_, rfl⟩ | ⟨c2_, c3_, rfl⟩ | ⟨c4_, c5_, rfl⟩
  · skip
    refine lv_if_ne (tgt := 13) hx hb dX11_store_4 (by decide) (fun c9_ => absurd (by decide) c9_) (fun _ => ?_)
    refine lv_aload_n hx hb dX11_store_7 rfl (lv_at hl 0 rfl) ?_
    refine lv_iconst (v := (-1)) hx hb dX11_store_8 (by decide) ?_
    have hPc : va_P (dC, dI) vwCl ([(a 0, .inr (11, [.ref (a 1), .ref (a 60), .ref (a 21), .ref (a 24), .ref (a 28), .ref (a 30), .ref (a 31), .ref (a 32), .ref (a 55), .int 0, .int (-1)])), (a 55, .inl (cy 0, 7, .inl (fun _ => 0)))]) _ := hP.sub [0, 55] rfl
    have hDc := hD.sub (ws' := [(a 0, .inr (11, [.ref (a 1), .ref (a 60), .ref (a 21), .ref (a 24), .ref (a 28), .ref (a 30), .ref (a 31), .ref (a 32), .ref (a 55), .int 0, .int (-1)])), (a 55, .inl (cy 0, 7, .inl (fun _ => 0)))]) [0, 55] (by decide) rfl
    have hFc := va_free (wc := [(a 0, .inr (11, [.ref (a 1), .ref (a 60), .ref (a 21), .ref (a 24), .ref (a 28), .ref (a 30), .ref (a 31), .ref (a 32), .ref (a 55), .int 0, .int (-1)])), (a 55, .inl (cy 0, 7, .inl (fun _ => 0)))]) hD hS hA [0, 55] rfl
    refine va_calli (va_runV (As := [.int (-1)]) (rest := []) ⟨hx, hb, hml, hown, hts⟩ (c_X11_refuse l dC dI cy a g _ (-1) (-1)) (cwV 1 hts g_X11_store_X11_refuse_89 rfl rfl rfl (by decide +kernel) ⟨Nat.le_of_ble_eq_true rfl, Nat.le_of_ble_eq_true rfl⟩) (pv_ps hC hPc hDc (ci := 11) (q0 := 0) rfl rfl) rfl rfl hl.1 rfl (lv_room (Nat.le_of_ble_eq_true rfl)) dX11_store_9 ⟨Nat.le_of_ble_eq_true rfl, Nat.le_of_ble_eq_true rfl⟩) hS (fun q _ h => hFc q h) hFc (fun r_ u t_ H1 locs ht hvm hw hB hz1 hk1 hS => ?_)
    obtain ⟨hP, hD⟩ := va_join (wr := []) (w1 := []) hP hD [0, 55] [] rfl rfl (by decide) (by decide) hk1 hFc va_P0 va_D0
    generalize H1 = H at hP hS ⊢
    have hP : va_P (dC, dI) vwCl ([]) H := hP
    have hD : va_D A ([]) := hD
    rcases hw with ⟨c6_, rfl⟩ | ⟨-, c8_, rfl⟩ | ⟨-, -, rfl⟩
    · skip
      exact absurd c6_ (by decide)
    · skip
      exact absurd c8_ (by decide)
    · skip
      exact W.iret (v := (-1)) hx hb hr (fun t ht hW => ⟨⟨(-1), (), rfl, Or.inl (⟨c1_, rfl⟩), trivial⟩, hS.F ht⟩) hS.2.2 dX11_store_12
  · skip
    refine lv_if_ne (tgt := 13) hx hb dX11_store_4 (by decide) (fun c9_ => absurd (by decide) c9_) (fun _ => ?_)
    refine lv_aload_n hx hb dX11_store_7 rfl (lv_at hl 0 rfl) ?_
    refine lv_iconst (v := (-1)) hx hb dX11_store_8 (by decide) ?_
    have hPc : va_P (dC, dI) vwCl ([(a 0, .inr (11, [.ref (a 1), .ref (a 60), .ref (a 21), .ref (a 24), .ref (a 28), .ref (a 30), .ref (a 31), .ref (a 32), .ref (a 55), .int 0, .int (-1)])), (a 55, .inl (cy 0, 7, .inl (fun _ => 0)))]) _ := hP.sub [0, 55] rfl
    have hDc := hD.sub (ws' := [(a 0, .inr (11, [.ref (a 1), .ref (a 60), .ref (a 21), .ref (a 24), .ref (a 28), .ref (a 30), .ref (a 31), .ref (a 32), .ref (a 55), .int 0, .int (-1)])), (a 55, .inl (cy 0, 7, .inl (fun _ => 0)))]) [0, 55] (by decide) rfl
    have hFc := va_free (wc := [(a 0, .inr (11, [.ref (a 1), .ref (a 60), .ref (a 21), .ref (a 24), .ref (a 28), .ref (a 30), .ref (a 31), .ref (a 32), .ref (a 55), .int 0, .int (-1)])), (a 55, .inl (cy 0, 7, .inl (fun _ => 0)))]) hD hS hA [0, 55] rfl
    refine va_calli (va_runV (As := [.int (-1)]) (rest := []) ⟨hx, hb, hml, hown, hts⟩ (c_X11_refuse l dC dI cy a g _ (-1) (-1)) (cwV 1 hts g_X11_store_X11_refuse_89 rfl rfl rfl (by decide +kernel) ⟨Nat.le_of_ble_eq_true rfl, Nat.le_of_ble_eq_true rfl⟩) (pv_ps hC hPc hDc (ci := 11) (q0 := 0) rfl rfl) rfl rfl hl.1 rfl (lv_room (Nat.le_of_ble_eq_true rfl)) dX11_store_9 ⟨Nat.le_of_ble_eq_true rfl, Nat.le_of_ble_eq_true rfl⟩) hS (fun q _ h => hFc q h) hFc (fun r_ u t_ H1 locs ht hvm hw hB hz1 hk1 hS => ?_)
    obtain ⟨hP, hD⟩ := va_join (wr := []) (w1 := []) hP hD [0, 55] [] rfl rfl (by decide) (by decide) hk1 hFc va_P0 va_D0
    generalize H1 = H at hP hS ⊢
    have hP : va_P (dC, dI) vwCl ([]) H := hP
    have hD : va_D A ([]) := hD
    rcases hw with ⟨c11_, rfl⟩ | ⟨-, c13_, rfl⟩ | ⟨-, -, rfl⟩
    · skip
      exact absurd c11_ (by decide)
    · skip
      exact absurd c13_ (by decide)
    · skip
      exact W.iret (v := (-1)) hx hb hr (fun t ht hW => ⟨⟨(-1), (), rfl, Or.inr (Or.inl (⟨c2_, c3_, rfl⟩)), trivial⟩, hS.F ht⟩) hS.2.2 dX11_store_12
  · skip
    refine lv_if_ne (tgt := 13) hx hb dX11_store_4 (by decide) (fun _ => ?_) (fun c9_ => absurd c9_ (by decide))
    refine lv_aload_n hx hb dX11_store_13 rfl (lv_at hl 0 rfl) ?_
    refine va_get (D := (dC, dI)) (ci := 11) (v := .ref (a 21)) (C := RX11) (T := TX11) (N := 11) hx hb hts i_X11_store_X11 hown hK hP 0 rfl rfl 2 (by decide) (hts _ m_X11_store_0) (fun _ h9 => h9) rfl dX11_store_14 ?_
    refine lv_iload_n hx hb dX11_store_17 rfl (lv_at hl 1 rfl) ?_
    refine tk_pi (va_runV (As := [.int p0]) (rest := []) ⟨hx, hb, hml, hown, hts⟩ (c_X10_holdsValue l dC dI cy a g p0) (cwV 1 hts g_X11_store_X10_holdsValue_127 rfl rfl rfl (by decide +kernel) ⟨Nat.le_of_ble_eq_true rfl, Nat.le_of_ble_eq_true rfl⟩) (pv_pp hC hP (ci := 10) (q0 := 21) rfl rfl) rfl rfl hl.1 rfl (lv_room (Nat.le_of_ble_eq_true rfl)) dX11_store_18 ⟨Nat.le_of_ble_eq_true rfl, Nat.le_of_ble_eq_true rfl⟩) hP hS (fun r_ H locs hw hP hS => ?_)
    rcases hw with ⟨c16_, rfl⟩ | ⟨c17_, c18_, rfl⟩ | ⟨c19_, rfl⟩
    · skip
      refine lv_if_ne (tgt := 31) hx hb dX11_store_21 (by decide) (fun c9_ => absurd (by decide) c9_) (fun _ => ?_)
      refine lv_aload_n hx hb dX11_store_24 rfl (lv_at hl 0 rfl) ?_
      refine lv_bipush (v := (-2)) hx hb dX11_store_25 (by decide) ?_
      have hPc : va_P (dC, dI) vwCl ([(a 0, .inr (11, [.ref (a 1), .ref (a 60), .ref (a 21), .ref (a 24), .ref (a 28), .ref (a 30), .ref (a 31), .ref (a 32), .ref (a 55), .int 0, .int (-1)])), (a 55, .inl (cy 0, 7, .inl (fun _ => 0)))]) _ := hP.sub [0, 55] rfl
      have hDc := hD.sub (ws' := [(a 0, .inr (11, [.ref (a 1), .ref (a 60), .ref (a 21), .ref (a 24), .ref (a 28), .ref (a 30), .ref (a 31), .ref (a 32), .ref (a 55), .int 0, .int (-1)])), (a 55, .inl (cy 0, 7, .inl (fun _ => 0)))]) [0, 55] (by decide) rfl
      have hFc := va_free (wc := [(a 0, .inr (11, [.ref (a 1), .ref (a 60), .ref (a 21), .ref (a 24), .ref (a 28), .ref (a 30), .ref (a 31), .ref (a 32), .ref (a 55), .int 0, .int (-1)])), (a 55, .inl (cy 0, 7, .inl (fun _ => 0)))]) hD hS hA [0, 55] rfl
      refine va_calli (va_runV (As := [.int (-2)]) (rest := []) ⟨hx, hb, hml, hown, hts⟩ (c_X11_refuse l dC dI cy a g _ (-2) (-1)) (cwV 1 hts g_X11_store_X11_refuse_89 rfl rfl rfl (by decide +kernel) ⟨Nat.le_of_ble_eq_true rfl, Nat.le_of_ble_eq_true rfl⟩) (pv_ps hC hPc hDc (ci := 11) (q0 := 0) rfl rfl) rfl rfl hl.1 rfl (lv_room (Nat.le_of_ble_eq_true rfl)) dX11_store_27 ⟨Nat.le_of_ble_eq_true rfl, Nat.le_of_ble_eq_true rfl⟩) hS (fun q _ h => hFc q h) hFc (fun r_ u t_ H1 locs ht hvm hw hB hz1 hk1 hS => ?_)
      obtain ⟨hP, hD⟩ := va_join (wr := []) (w1 := []) hP hD [0, 55] [] rfl rfl (by decide) (by decide) hk1 hFc va_P0 va_D0
      generalize H1 = H at hP hS ⊢
      have hP : va_P (dC, dI) vwCl ([]) H := hP
      have hD : va_D A ([]) := hD
      rcases hw with ⟨c20_, rfl⟩ | ⟨-, c22_, rfl⟩ | ⟨-, -, rfl⟩
      · skip
        exact absurd c20_ (by decide)
      · skip
        exact absurd c22_ (by decide)
      · skip
        exact W.iret (v := (-2)) hx hb hr (fun t ht hW => ⟨⟨(-2), (), rfl, Or.inr (Or.inr (Or.inl (⟨c4_, c5_, c16_, rfl⟩))), trivial⟩, hS.F ht⟩) hS.2.2 dX11_store_30
    · skip
      refine lv_if_ne (tgt := 31) hx hb dX11_store_21 (by decide) (fun c9_ => absurd (by decide) c9_) (fun _ => ?_)
      refine lv_aload_n hx hb dX11_store_24 rfl (lv_at hl 0 rfl) ?_
      refine lv_bipush (v := (-2)) hx hb dX11_store_25 (by decide) ?_
      have hPc : va_P (dC, dI) vwCl ([(a 0, .inr (11, [.ref (a 1), .ref (a 60), .ref (a 21), .ref (a 24), .ref (a 28), .ref (a 30), .ref (a 31), .ref (a 32), .ref (a 55), .int 0, .int (-1)])), (a 55, .inl (cy 0, 7, .inl (fun _ => 0)))]) _ := hP.sub [0, 55] rfl
      have hDc := hD.sub (ws' := [(a 0, .inr (11, [.ref (a 1), .ref (a 60), .ref (a 21), .ref (a 24), .ref (a 28), .ref (a 30), .ref (a 31), .ref (a 32), .ref (a 55), .int 0, .int (-1)])), (a 55, .inl (cy 0, 7, .inl (fun _ => 0)))]) [0, 55] (by decide) rfl
      have hFc := va_free (wc := [(a 0, .inr (11, [.ref (a 1), .ref (a 60), .ref (a 21), .ref (a 24), .ref (a 28), .ref (a 30), .ref (a 31), .ref (a 32), .ref (a 55), .int 0, .int (-1)])), (a 55, .inl (cy 0, 7, .inl (fun _ => 0)))]) hD hS hA [0, 55] rfl
      refine va_calli (va_runV (As := [.int (-2)]) (rest := []) ⟨hx, hb, hml, hown, hts⟩ (c_X11_refuse l dC dI cy a g _ (-2) (-1)) (cwV 1 hts g_X11_store_X11_refuse_89 rfl rfl rfl (by decide +kernel) ⟨Nat.le_of_ble_eq_true rfl, Nat.le_of_ble_eq_true rfl⟩) (pv_ps hC hPc hDc (ci := 11) (q0 := 0) rfl rfl) rfl rfl hl.1 rfl (lv_room (Nat.le_of_ble_eq_true rfl)) dX11_store_27 ⟨Nat.le_of_ble_eq_true rfl, Nat.le_of_ble_eq_true rfl⟩) hS (fun q _ h => hFc q h) hFc (fun r_ u t_ H1 locs ht hvm hw hB hz1 hk1 hS => ?_)
      obtain ⟨hP, hD⟩ := va_join (wr := []) (w1 := []) hP hD [0, 55] [] rfl rfl (by decide) (by decide) hk1 hFc va_P0 va_D0
      generalize H1 = H at hP hS ⊢
      have hP : va_P (dC, dI) vwCl ([]) H := hP
      have hD : va_D A ([]) := hD
      rcases hw with ⟨c25_, rfl⟩ | ⟨-, c27_, rfl⟩ | ⟨-, -, rfl⟩
      · skip
        exact absurd c25_ (by decide)
      · skip
        exact absurd c27_ (by decide)
      · skip
        exact W.iret (v := (-2)) hx hb hr (fun t ht hW => ⟨⟨(-2), (), rfl, Or.inr (Or.inr (Or.inr (Or.inl (⟨c4_, c5_, c17_, c18_, rfl⟩)))), trivial⟩, hS.F ht⟩) hS.2.2 dX11_store_30
    · skip
      subst c19_
      refine lv_if_ne (tgt := 31) hx hb dX11_store_21 (by decide) (fun c9_ => absurd (by decide) c9_) (fun _ => ?_)
      refine lv_aload_n hx hb dX11_store_24 rfl (lv_at hl 0 rfl) ?_
      refine lv_bipush (v := (-2)) hx hb dX11_store_25 (by decide) ?_
      have hPc : va_P (dC, dI) vwCl ([(a 0, .inr (11, [.ref (a 1), .ref (a 60), .ref (a 21), .ref (a 24), .ref (a 28), .ref (a 30), .ref (a 31), .ref (a 32), .ref (a 55), .int 0, .int (-1)])), (a 55, .inl (cy 0, 7, .inl (fun _ => 0)))]) _ := hP.sub [0, 55] rfl
      have hDc := hD.sub (ws' := [(a 0, .inr (11, [.ref (a 1), .ref (a 60), .ref (a 21), .ref (a 24), .ref (a 28), .ref (a 30), .ref (a 31), .ref (a 32), .ref (a 55), .int 0, .int (-1)])), (a 55, .inl (cy 0, 7, .inl (fun _ => 0)))]) [0, 55] (by decide) rfl
      have hFc := va_free (wc := [(a 0, .inr (11, [.ref (a 1), .ref (a 60), .ref (a 21), .ref (a 24), .ref (a 28), .ref (a 30), .ref (a 31), .ref (a 32), .ref (a 55), .int 0, .int (-1)])), (a 55, .inl (cy 0, 7, .inl (fun _ => 0)))]) hD hS hA [0, 55] rfl
      refine va_calli (va_runV (As := [.int (-2)]) (rest := []) ⟨hx, hb, hml, hown, hts⟩ (c_X11_refuse l dC dI cy a g _ (-2) (-1)) (cwV 1 hts g_X11_store_X11_refuse_89 rfl rfl rfl (by decide +kernel) ⟨Nat.le_of_ble_eq_true rfl, Nat.le_of_ble_eq_true rfl⟩) (pv_ps hC hPc hDc (ci := 11) (q0 := 0) rfl rfl) rfl rfl hl.1 rfl (lv_room (Nat.le_of_ble_eq_true rfl)) dX11_store_27 ⟨Nat.le_of_ble_eq_true rfl, Nat.le_of_ble_eq_true rfl⟩) hS (fun q _ h => hFc q h) hFc (fun r_ u t_ H1 locs ht hvm hw hB hz1 hk1 hS => ?_)
      obtain ⟨hP, hD⟩ := va_join (wr := []) (w1 := []) hP hD [0, 55] [] rfl rfl (by decide) (by decide) hk1 hFc va_P0 va_D0
      generalize H1 = H at hP hS ⊢
      have hP : va_P (dC, dI) vwCl ([]) H := hP
      have hD : va_D A ([]) := hD
      rcases hw with ⟨c30_, rfl⟩ | ⟨-, c32_, rfl⟩ | ⟨-, -, rfl⟩
      · skip
        exact absurd c30_ (by decide)
      · skip
        exact absurd c32_ (by decide)
      · skip
        exact W.iret (v := (-2)) hx hb hr (fun t ht hW => ⟨⟨(-2), (), rfl, Or.inr (Or.inr (Or.inr (Or.inr (⟨c4_, c5_, rfl, rfl⟩)))), trivial⟩, hS.F ht⟩) hS.2.2 dX11_store_30

theorem dX11_power_0 : decode cX11_power 0 = .ok (.aload_n 0, 1) := by decide +kernel
theorem dX11_power_1 : decode cX11_power 1 = .ok (.iload_n 1, 1) := by decide +kernel
theorem dX11_power_2 : decode cX11_power 2 = .ok (.iload_n 2, 1) := by decide +kernel
theorem dX11_power_3 : decode cX11_power 3 = .ok (.invokevirtual 137, 3) := by decide +kernel
theorem dX11_power_6 : decode cX11_power 6 = .ok (.istore_n 3, 1) := by decide +kernel
theorem dX11_power_7 : decode cX11_power 7 = .ok (.iload_n 3, 1) := by decide +kernel
theorem dX11_power_8 : decode cX11_power 8 = .ok (.ifCond .eq 9, 3) := by decide +kernel
theorem dX11_power_11 : decode cX11_power 11 = .ok (.aload_n 0, 1) := by decide +kernel
theorem dX11_power_12 : decode cX11_power 12 = .ok (.iload_n 3, 1) := by decide +kernel
theorem dX11_power_13 : decode cX11_power 13 = .ok (.invokevirtual 89, 3) := by decide +kernel
theorem dX11_power_16 : decode cX11_power 16 = .ok (.ireturn, 1) := by decide +kernel
def v_X11_power : List Cond := .code yX11_power cX11_power 7 (some .int) :: ([.methodLink RX11 137 yX11_refusalToPower, .instanceMethod yX11_refusalToPower, .selects RX11 yX11_refusalToPower yX11_refusalToPower, .initialized RX11, .code yX11_refusalToPower cX11_refusalToPower 5 (some .int), .methodLink RX11 157 yX11_refusalToChange, .instanceMethod yX11_refusalToChange, .selects RX11 yX11_refusalToChange yX11_refusalToChange, .code yX11_refusalToChange cX11_refusalToChange 2 (some .int), .fieldLink RX11 24 "RestBoard" "tree" "LRestBoard$Tree;", .methodLink RX11 85 yX10_is, .instanceMethod yX10_is, .selects RX10 yX10_is yX10_is, .initialized RX10, .code yX10_is cX10_is 3 (some .boolean), .fieldLink RX10 11 "RestBoard$Tree" "nodes" "[LRestBoard$Node;", .fieldLink RX10 36 "RestBoard$Node" "kind" "I", .methodLink RX10 32 yX10_has, .instanceMethod yX10_has, .selects RX10 yX10_has yX10_has, .code yX10_has cX10_has 2 (some .boolean), .fieldLink RX10 17 "RestBoard$Tree" "now" "LRestBoard$State;", .fieldLink RX10 26 "RestBoard$State" "size" "I", .methodLink RX11 89 yX11_refuse, .instanceMethod yX11_refuse, .selects RX11 yX11_refuse yX11_refuse, .code yX11_refuse cX11_refuse 3 (some .int), .fieldLink RX11 293 "RestBoard" "refusedBy" "I", .fieldLink RX11 69 "RestBoard" "refusals" "[I"] ++ wsX110 ++ wsX100 ++ wsX40 ++ wsX80)
set_option maxRecDepth 100000 in
theorem gg_X11_power_X11_refusalToPower_137 : GoodIn v_X11_power v_X11_refusalToPower := goodIn_r _ [5, 6, 7, 8, 4, 9, 10, 11, 12, 13, 14, 15, 16, 17, 18, 19, 20, 21, 22, 23, 30, 31, 32, 33, 34, 35, 36, 37, 38, 39, 40, 41, 42, 43, 44, 45, 46, 47, 48, 49, 50, 51, 52, 53, 54, 55, 56, 57, 58, 59, 60, 61, 62, 63, 64, 65, 66, 67, 68, 69, 70, 71, 72, 73] (by decide +kernel) (by decide +kernel)
set_option maxRecDepth 100000 in
theorem g_X11_power_X11_refusalToPower_137 : GoodIn v_X11_power (wsV RX11 137 RX11 yX11_refusalToPower v_X11_refusalToPower) := goodIn_app (goodIn_r _ [1, 2, 3, 4] (by decide +kernel) (by decide +kernel)) gg_X11_power_X11_refusalToPower_137
set_option maxRecDepth 100000 in
theorem gg_X11_power_X11_refuse_89 : GoodIn v_X11_power v_X11_refuse := goodIn_r _ [27, 28, 29, 30, 31, 32, 33, 34, 35, 36, 37, 38, 39, 40] (by decide +kernel) (by decide +kernel)
set_option maxRecDepth 100000 in
theorem g_X11_power_X11_refuse_89 : GoodIn v_X11_power (wsV RX11 89 RX11 yX11_refuse v_X11_refuse) := goodIn_app (goodIn_r _ [24, 25, 26, 4] (by decide +kernel) (by decide +kernel)) gg_X11_power_X11_refuse_89
set_option maxHeartbeats 4000000 in
set_option maxRecDepth 100000 in
theorem c_X11_power (l : Launch) (dC : Nat → ClassId) (dI : Nat → Nat → Nat) (cy : Nat → ClassId) (a : Nat → Nat) (g : Nat → Nat → Option Nat) (sz : Nat) (p0 p1 : Int32) : Met l yX11_power v_X11_power ({ frames := 4, cells := 0, slots := 0, locals := 88 }) (va_Pc [.ref (a 0), .int p0, .int p1] (ps dC dI cy (fw a cy g) sz)) (va_Qi (fun (r : Int32) (_ : Unit) => ((p1 < 0) ∧ r = (-1)) ∨ ((¬ p1 < 0) ∧ (p1 ≤ 3) ∧ (p0 = 0) ∧ r = (-2)) ∨ ((¬ p1 < 0) ∧ (p1 ≤ 3) ∧ (¬ p0 = 0) ∧ (p0 < 0) ∧ r = (-2)) ∨ ((¬ p1 < 0) ∧ (p1 ≤ 3) ∧ (¬ p0 = 0) ∧ (¬ p0 < 0) ∧ ((1 : Int32) ≤ p0) ∧ r = (-2)) ∨ ((¬ p1 < 0) ∧ (¬ p1 ≤ 3) ∧ r = (-1))) (fun _ _ => True) (va_A (fw a cy g) sz)) 0 0 (va_A (fw a cy g) sz) := by
  refine Met.ofW (cc := cX11_power) (maxL := 7) (ret := (some .int)) (by decide) rfl ?_
  intro p e s m args below meth c s₁ B hml hv
  obtain ⟨rfl, hsz, hP, hC, hD0⟩ := hv
  have hK := hC.1
  have hx := B.exec
  have hb := B.bytes
  have hr := B.returns
  have hts := atoms_spec (ws := v_X11_power) B.pre
  have hown : s.vm.findClass RX11 = some m.cls := findClass_of_methodNamed B.named
  have hlocks := B.notSynchronized
  subst hsz
  have hD := hD0.self (sz := s.heap.size)
  generalize hAe : va_A (fw a cy g) s.heap.size = A at hD ⊢
  have hA : ∀ q : Nat, s.heap.size ≤ q → A q := fun q h => by rw [← hAe]; exact Or.inr h
  have hS : va_S A s.heap s.heap [] := va_S.rf
  have hl := lv_entry ([.ref (a 0), .int p0, .int p1]) (n := 7) (Nat.le_of_ble_eq_true rfl)
  rw [lg_entry_eq]
  generalize (lg_sl ([.ref (a 0), .int p0, .int p1]) ++ List.replicate (7 - (lg_sl ([.ref (a 0), .int p0, .int p1])).length) Slot.unset).toArray = ls at hl ⊢
  have hl : lv_has ls 7 [(0, .ref (a 0)), (1, .int p0), (2, .int p1)] := hl
  refine lv_aload_n hx hb dX11_power_0 rfl (lv_at hl 0 rfl) ?_
  refine lv_iload_n hx hb dX11_power_1 rfl (lv_at hl 1 rfl) ?_
  refine lv_iload_n hx hb dX11_power_2 rfl (lv_at hl 2 rfl) ?_
  refine tk_pi (va_runV (As := [.int p0, .int p1]) (rest := []) ⟨hx, hb, hml, hown, hts⟩ (c_X11_refusalToPower l dC dI cy a g p0 p1) (cwV 2 hts g_X11_power_X11_refusalToPower_137 rfl rfl rfl (by decide +kernel) ⟨Nat.le_of_ble_eq_true rfl, Nat.le_of_ble_eq_true rfl⟩) (pv_pp hC hP (ci := 11) (q0 := 0) rfl rfl) rfl rfl hl.1 rfl (lv_room (Nat.le_of_ble_eq_true rfl)) dX11_power_3 ⟨Nat.le_of_ble_eq_true rfl, Nat.le_of_ble_eq_true rfl⟩) hP hS (fun r_ H locs hw hP hS => ?_)
  rcases hw with ⟨c1_, rfl⟩ | ⟨c2_, c3_, c4_, rfl⟩ | ⟨c5_, c6_, c7_, c8_, rfl⟩ | ⟨c9_, c10_, c11_, c12_, c13_, rfl⟩ | ⟨c14_, c15_, rfl⟩
  · skip
    refine lv_istore_n (lv' := [(3, .int (-1)), (0, .ref (a 0)), (1, .int p0), (2, .int p1)]) hx hb dX11_power_6 rfl hl (by decide) rfl (fun ls hl => ?_)
    refine lv_iload_n hx hb dX11_power_7 rfl (lv_at hl 0 rfl) ?_
    refine lv_if_eq (tgt := 17) hx hb dX11_power_8 (by decide) (fun c9_ => absurd c9_ (by decide)) (fun _ => ?_)
    refine lv_aload_n hx hb dX11_power_11 rfl (lv_at hl 1 rfl) ?_
    refine lv_iload_n hx hb dX11_power_12 rfl (lv_at hl 0 rfl) ?_
    have hPc : va_P (dC, dI) vwCl ([(a 0, .inr (11, [.ref (a 1), .ref (a 60), .ref (a 21), .ref (a 24), .ref (a 28), .ref (a 30), .ref (a 31), .ref (a 32), .ref (a 55), .int 0, .int (-1)])), (a 55, .inl (cy 0, 7, .inl (fun _ => 0)))]) _ := hP.sub [0, 55] rfl
    have hDc := hD.sub (ws' := [(a 0, .inr (11, [.ref (a 1), .ref (a 60), .ref (a 21), .ref (a 24), .ref (a 28), .ref (a 30), .ref (a 31), .ref (a 32), .ref (a 55), .int 0, .int (-1)])), (a 55, .inl (cy 0, 7, .inl (fun _ => 0)))]) [0, 55] (by decide) rfl
    have hFc := va_free (wc := [(a 0, .inr (11, [.ref (a 1), .ref (a 60), .ref (a 21), .ref (a 24), .ref (a 28), .ref (a 30), .ref (a 31), .ref (a 32), .ref (a 55), .int 0, .int (-1)])), (a 55, .inl (cy 0, 7, .inl (fun _ => 0)))]) hD hS hA [0, 55] rfl
    refine va_calli (va_runV (As := [.int (-1)]) (rest := []) ⟨hx, hb, hml, hown, hts⟩ (c_X11_refuse l dC dI cy a g _ (-1) (-1)) (cwV 1 hts g_X11_power_X11_refuse_89 rfl rfl rfl (by decide +kernel) ⟨Nat.le_of_ble_eq_true rfl, Nat.le_of_ble_eq_true rfl⟩) (pv_ps hC hPc hDc (ci := 11) (q0 := 0) rfl rfl) rfl rfl hl.1 rfl (lv_room (Nat.le_of_ble_eq_true rfl)) dX11_power_13 ⟨Nat.le_of_ble_eq_true rfl, Nat.le_of_ble_eq_true rfl⟩) hS (fun q _ h => hFc q h) hFc (fun r_ u t_ H1 locs ht hvm hw hB hz1 hk1 hS => ?_)
    obtain ⟨hP, hD⟩ := va_join (wr := []) (w1 := []) hP hD [0, 55] [] rfl rfl (by decide) (by decide) hk1 hFc va_P0 va_D0
    generalize H1 = H at hP hS ⊢
    have hP : va_P (dC, dI) vwCl ([]) H := hP
    have hD : va_D A ([]) := hD
    rcases hw with ⟨c16_, rfl⟩ | ⟨-, c18_, rfl⟩ | ⟨-, -, rfl⟩
    · skip
      exact absurd c16_ (by decide)
    · skip
      exact absurd c18_ (by decide)
    · skip
      exact W.iret (v := (-1)) hx hb hr (fun t ht hW => ⟨⟨(-1), (), rfl, Or.inl (⟨c1_, rfl⟩), trivial⟩, hS.F ht⟩) hS.2.2 dX11_power_16
  · skip
    subst c4_
    refine lv_istore_n (lv' := [(3, .int (-2)), (0, .ref (a 0)), (1, .int 0), (2, .int p1)]) hx hb dX11_power_6 rfl hl (by decide) rfl (fun ls hl => ?_)
    refine lv_iload_n hx hb dX11_power_7 rfl (lv_at hl 0 rfl) ?_
    refine lv_if_eq (tgt := 17) hx hb dX11_power_8 (by decide) (fun c9_ => absurd c9_ (by decide)) (fun _ => ?_)
    refine lv_aload_n hx hb dX11_power_11 rfl (lv_at hl 1 rfl) ?_
    refine lv_iload_n hx hb dX11_power_12 rfl (lv_at hl 0 rfl) ?_
    have hPc : va_P (dC, dI) vwCl ([(a 0, .inr (11, [.ref (a 1), .ref (a 60), .ref (a 21), .ref (a 24), .ref (a 28), .ref (a 30), .ref (a 31), .ref (a 32), .ref (a 55), .int 0, .int (-1)])), (a 55, .inl (cy 0, 7, .inl (fun _ => 0)))]) _ := hP.sub [0, 55] rfl
    have hDc := hD.sub (ws' := [(a 0, .inr (11, [.ref (a 1), .ref (a 60), .ref (a 21), .ref (a 24), .ref (a 28), .ref (a 30), .ref (a 31), .ref (a 32), .ref (a 55), .int 0, .int (-1)])), (a 55, .inl (cy 0, 7, .inl (fun _ => 0)))]) [0, 55] (by decide) rfl
    have hFc := va_free (wc := [(a 0, .inr (11, [.ref (a 1), .ref (a 60), .ref (a 21), .ref (a 24), .ref (a 28), .ref (a 30), .ref (a 31), .ref (a 32), .ref (a 55), .int 0, .int (-1)])), (a 55, .inl (cy 0, 7, .inl (fun _ => 0)))]) hD hS hA [0, 55] rfl
    refine va_calli (va_runV (As := [.int (-2)]) (rest := []) ⟨hx, hb, hml, hown, hts⟩ (c_X11_refuse l dC dI cy a g _ (-2) (-1)) (cwV 1 hts g_X11_power_X11_refuse_89 rfl rfl rfl (by decide +kernel) ⟨Nat.le_of_ble_eq_true rfl, Nat.le_of_ble_eq_true rfl⟩) (pv_ps hC hPc hDc (ci := 11) (q0 := 0) rfl rfl) rfl rfl hl.1 rfl (lv_room (Nat.le_of_ble_eq_true rfl)) dX11_power_13 ⟨Nat.le_of_ble_eq_true rfl, Nat.le_of_ble_eq_true rfl⟩) hS (fun q _ h => hFc q h) hFc (fun r_ u t_ H1 locs ht hvm hw hB hz1 hk1 hS => ?_)
    obtain ⟨hP, hD⟩ := va_join (wr := []) (w1 := []) hP hD [0, 55] [] rfl rfl (by decide) (by decide) hk1 hFc va_P0 va_D0
    generalize H1 = H at hP hS ⊢
    have hP : va_P (dC, dI) vwCl ([]) H := hP
    have hD : va_D A ([]) := hD
    rcases hw with ⟨c21_, rfl⟩ | ⟨-, c23_, rfl⟩ | ⟨-, -, rfl⟩
    · skip
      exact absurd c21_ (by decide)
    · skip
      exact absurd c23_ (by decide)
    · skip
      exact W.iret (v := (-2)) hx hb hr (fun t ht hW => ⟨⟨(-2), (), rfl, Or.inr (Or.inl (⟨c2_, c3_, rfl, rfl⟩)), trivial⟩, hS.F ht⟩) hS.2.2 dX11_power_16
  · skip
    refine lv_istore_n (lv' := [(3, .int (-2)), (0, .ref (a 0)), (1, .int p0), (2, .int p1)]) hx hb dX11_power_6 rfl hl (by decide) rfl (fun ls hl => ?_)
    refine lv_iload_n hx hb dX11_power_7 rfl (lv_at hl 0 rfl) ?_
    refine lv_if_eq (tgt := 17) hx hb dX11_power_8 (by decide) (fun c9_ => absurd c9_ (by decide)) (fun _ => ?_)
    refine lv_aload_n hx hb dX11_power_11 rfl (lv_at hl 1 rfl) ?_
    refine lv_iload_n hx hb dX11_power_12 rfl (lv_at hl 0 rfl) ?_
    have hPc : va_P (dC, dI) vwCl ([(a 0, .inr (11, [.ref (a 1), .ref (a 60), .ref (a 21), .ref (a 24), .ref (a 28), .ref (a 30), .ref (a 31), .ref (a 32), .ref (a 55), .int 0, .int (-1)])), (a 55, .inl (cy 0, 7, .inl (fun _ => 0)))]) _ := hP.sub [0, 55] rfl
    have hDc := hD.sub (ws' := [(a 0, .inr (11, [.ref (a 1), .ref (a 60), .ref (a 21), .ref (a 24), .ref (a 28), .ref (a 30), .ref (a 31), .ref (a 32), .ref (a 55), .int 0, .int (-1)])), (a 55, .inl (cy 0, 7, .inl (fun _ => 0)))]) [0, 55] (by decide) rfl
    have hFc := va_free (wc := [(a 0, .inr (11, [.ref (a 1), .ref (a 60), .ref (a 21), .ref (a 24), .ref (a 28), .ref (a 30), .ref (a 31), .ref (a 32), .ref (a 55), .int 0, .int (-1)])), (a 55, .inl (cy 0, 7, .inl (fun _ => 0)))]) hD hS hA [0, 55] rfl
    refine va_calli (va_runV (As := [.int (-2)]) (rest := []) ⟨hx, hb, hml, hown, hts⟩ (c_X11_refuse l dC dI cy a g _ (-2) (-1)) (cwV 1 hts g_X11_power_X11_refuse_89 rfl rfl rfl (by decide +kernel) ⟨Nat.le_of_ble_eq_true rfl, Nat.le_of_ble_eq_true rfl⟩) (pv_ps hC hPc hDc (ci := 11) (q0 := 0) rfl rfl) rfl rfl hl.1 rfl (lv_room (Nat.le_of_ble_eq_true rfl)) dX11_power_13 ⟨Nat.le_of_ble_eq_true rfl, Nat.le_of_ble_eq_true rfl⟩) hS (fun q _ h => hFc q h) hFc (fun r_ u t_ H1 locs ht hvm hw hB hz1 hk1 hS => ?_)
    obtain ⟨hP, hD⟩ := va_join (wr := []) (w1 := []) hP hD [0, 55] [] rfl rfl (by decide) (by decide) hk1 hFc va_P0 va_D0
    generalize H1 = H at hP hS ⊢
    have hP : va_P (dC, dI) vwCl ([]) H := hP
    have hD : va_D A ([]) := hD
    rcases hw with ⟨c26_, rfl⟩ | ⟨-, c28_, rfl⟩ | ⟨-, -, rfl⟩
    · skip
      exact absurd c26_ (by decide)
    · skip
      exact absurd c28_ (by decide)
    · skip
      exact W.iret (v := (-2)) hx hb hr (fun t ht hW => ⟨⟨(-2), (), rfl, Or.inr (Or.inr (Or.inl (⟨c5_, c6_, c7_, c8_, rfl⟩))), trivial⟩, hS.F ht⟩) hS.2.2 dX11_power_16
  · skip
    refine lv_istore_n (lv' := [(3, .int (-2)), (0, .ref (a 0)), (1, .int p0), (2, .int p1)]) hx hb dX11_power_6 rfl hl (by decide) rfl (fun ls hl => ?_)
    refine lv_iload_n hx hb dX11_power_7 rfl (lv_at hl 0 rfl) ?_
    refine lv_if_eq (tgt := 17) hx hb dX11_power_8 (by decide) (fun c9_ => absurd c9_ (by decide)) (fun _ => ?_)
    refine lv_aload_n hx hb dX11_power_11 rfl (lv_at hl 1 rfl) ?_
    refine lv_iload_n hx hb dX11_power_12 rfl (lv_at hl 0 rfl) ?_
    have hPc : va_P (dC, dI) vwCl ([(a 0, .inr (11, [.ref (a 1), .ref (a 60), .ref (a 21), .ref (a 24), .ref (a 28), .ref (a 30), .ref (a 31), .ref (a 32), .ref (a 55), .int 0, .int (-1)])), (a 55, .inl (cy 0, 7, .inl (fun _ => 0)))]) _ := hP.sub [0, 55] rfl
    have hDc := hD.sub (ws' := [(a 0, .inr (11, [.ref (a 1), .ref (a 60), .ref (a 21), .ref (a 24), .ref (a 28), .ref (a 30), .ref (a 31), .ref (a 32), .ref (a 55), .int 0, .int (-1)])), (a 55, .inl (cy 0, 7, .inl (fun _ => 0)))]) [0, 55] (by decide) rfl
    have hFc := va_free (wc := [(a 0, .inr (11, [.ref (a 1), .ref (a 60), .ref (a 21), .ref (a 24), .ref (a 28), .ref (a 30), .ref (a 31), .ref (a 32), .ref (a 55), .int 0, .int (-1)])), (a 55, .inl (cy 0, 7, .inl (fun _ => 0)))]) hD hS hA [0, 55] rfl
    refine va_calli (va_runV (As := [.int (-2)]) (rest := []) ⟨hx, hb, hml, hown, hts⟩ (c_X11_refuse l dC dI cy a g _ (-2) (-1)) (cwV 1 hts g_X11_power_X11_refuse_89 rfl rfl rfl (by decide +kernel) ⟨Nat.le_of_ble_eq_true rfl, Nat.le_of_ble_eq_true rfl⟩) (pv_ps hC hPc hDc (ci := 11) (q0 := 0) rfl rfl) rfl rfl hl.1 rfl (lv_room (Nat.le_of_ble_eq_true rfl)) dX11_power_13 ⟨Nat.le_of_ble_eq_true rfl, Nat.le_of_ble_eq_true rfl⟩) hS (fun q _ h => hFc q h) hFc (fun r_ u t_ H1 locs ht hvm hw hB hz1 hk1 hS => ?_)
    obtain ⟨hP, hD⟩ := va_join (wr := []) (w1 := []) hP hD [0, 55] [] rfl rfl (by decide) (by decide) hk1 hFc va_P0 va_D0
    generalize H1 = H at hP hS ⊢
    have hP : va_P (dC, dI) vwCl ([]) H := hP
    have hD : va_D A ([]) := hD
    rcases hw with ⟨c31_, rfl⟩ | ⟨-, c33_, rfl⟩ | ⟨-, -, rfl⟩
    · skip
      exact absurd c31_ (by decide)
    · skip
      exact absurd c33_ (by decide)
    · skip
      exact W.iret (v := (-2)) hx hb hr (fun t ht hW => ⟨⟨(-2), (), rfl, Or.inr (Or.inr (Or.inr (Or.inl (⟨c9_, c10_, c11_, c12_, c13_, rfl⟩)))), trivial⟩, hS.F ht⟩) hS.2.2 dX11_power_16
  · skip
    refine lv_istore_n (lv' := [(3, .int (-1)), (0, .ref (a 0)), (1, .int p0), (2, .int p1)]) hx hb dX11_power_6 rfl hl (by decide) rfl (fun ls hl => ?_)
    refine lv_iload_n hx hb dX11_power_7 rfl (lv_at hl 0 rfl) ?_
    refine lv_if_eq (tgt := 17) hx hb dX11_power_8 (by decide) (fun c9_ => absurd c9_ (by decide)) (fun _ => ?_)
    refine lv_aload_n hx hb dX11_power_11 rfl (lv_at hl 1 rfl) ?_
    refine lv_iload_n hx hb dX11_power_12 rfl (lv_at hl 0 rfl) ?_
    have hPc : va_P (dC, dI) vwCl ([(a 0, .inr (11, [.ref (a 1), .ref (a 60), .ref (a 21), .ref (a 24), .ref (a 28), .ref (a 30), .ref (a 31), .ref (a 32), .ref (a 55), .int 0, .int (-1)])), (a 55, .inl (cy 0, 7, .inl (fun _ => 0)))]) _ := hP.sub [0, 55] rfl
    have hDc := hD.sub (ws' := [(a 0, .inr (11, [.ref (a 1), .ref (a 60), .ref (a 21), .ref (a 24), .ref (a 28), .ref (a 30), .ref (a 31), .ref (a 32), .ref (a 55), .int 0, .int (-1)])), (a 55, .inl (cy 0, 7, .inl (fun _ => 0)))]) [0, 55] (by decide) rfl
    have hFc := va_free (wc := [(a 0, .inr (11, [.ref (a 1), .ref (a 60), .ref (a 21), .ref (a 24), .ref (a 28), .ref (a 30), .ref (a 31), .ref (a 32), .ref (a 55), .int 0, .int (-1)])), (a 55, .inl (cy 0, 7, .inl (fun _ => 0)))]) hD hS hA [0, 55] rfl
    refine va_calli (va_runV (As := [.int (-1)]) (rest := []) ⟨hx, hb, hml, hown, hts⟩ (c_X11_refuse l dC dI cy a g _ (-1) (-1)) (cwV 1 hts g_X11_power_X11_refuse_89 rfl rfl rfl (by decide +kernel) ⟨Nat.le_of_ble_eq_true rfl, Nat.le_of_ble_eq_true rfl⟩) (pv_ps hC hPc hDc (ci := 11) (q0 := 0) rfl rfl) rfl rfl hl.1 rfl (lv_room (Nat.le_of_ble_eq_true rfl)) dX11_power_13 ⟨Nat.le_of_ble_eq_true rfl, Nat.le_of_ble_eq_true rfl⟩) hS (fun q _ h => hFc q h) hFc (fun r_ u t_ H1 locs ht hvm hw hB hz1 hk1 hS => ?_)
    obtain ⟨hP, hD⟩ := va_join (wr := []) (w1 := []) hP hD [0, 55] [] rfl rfl (by decide) (by decide) hk1 hFc va_P0 va_D0
    generalize H1 = H at hP hS ⊢
    have hP : va_P (dC, dI) vwCl ([]) H := hP
    have hD : va_D A ([]) := hD
    rcases hw with ⟨c36_, rfl⟩ | ⟨-, c38_, rfl⟩ | ⟨-, -, rfl⟩
    · skip
      exact absurd c36_ (by decide)
    · skip
      exact absurd c38_ (by decide)
    · skip
      exact W.iret (v := (-1)) hx hb hr (fun t ht hW => ⟨⟨(-1), (), rfl, Or.inr (Or.inr (Or.inr (Or.inr (⟨c14_, c15_, rfl⟩)))), trivial⟩, hS.F ht⟩) hS.2.2 dX11_power_16

theorem dX11_arm_0 : decode cX11_arm 0 = .ok (.aload_n 0, 1) := by decide +kernel
theorem dX11_arm_1 : decode cX11_arm 1 = .ok (.iload_n 1, 1) := by decide +kernel
theorem dX11_arm_2 : decode cX11_arm 2 = .ok (.invokevirtual 157, 3) := by decide +kernel
theorem dX11_arm_5 : decode cX11_arm 5 = .ok (.istore_n 2, 1) := by decide +kernel
theorem dX11_arm_6 : decode cX11_arm 6 = .ok (.iload_n 2, 1) := by decide +kernel
theorem dX11_arm_7 : decode cX11_arm 7 = .ok (.ifCond .ne 30, 3) := by decide +kernel
theorem dX11_arm_37 : decode cX11_arm 37 = .ok (.iload_n 2, 1) := by decide +kernel
theorem dX11_arm_38 : decode cX11_arm 38 = .ok (.ifCond .eq 9, 3) := by decide +kernel
theorem dX11_arm_41 : decode cX11_arm 41 = .ok (.aload_n 0, 1) := by decide +kernel
theorem dX11_arm_42 : decode cX11_arm 42 = .ok (.iload_n 2, 1) := by decide +kernel
theorem dX11_arm_43 : decode cX11_arm 43 = .ok (.invokevirtual 89, 3) := by decide +kernel
theorem dX11_arm_46 : decode cX11_arm 46 = .ok (.ireturn, 1) := by decide +kernel
def v_X11_arm : List Cond := .code yX11_arm cX11_arm 3 (some .int) :: ([.methodLink RX11 157 yX11_refusalToChange, .instanceMethod yX11_refusalToChange, .selects RX11 yX11_refusalToChange yX11_refusalToChange, .initialized RX11, .code yX11_refusalToChange cX11_refusalToChange 2 (some .int), .fieldLink RX11 24 "RestBoard" "tree" "LRestBoard$Tree;", .methodLink RX11 85 yX10_is, .instanceMethod yX10_is, .selects RX10 yX10_is yX10_is, .initialized RX10, .code yX10_is cX10_is 3 (some .boolean), .fieldLink RX10 11 "RestBoard$Tree" "nodes" "[LRestBoard$Node;", .fieldLink RX10 36 "RestBoard$Node" "kind" "I", .methodLink RX10 32 yX10_has, .instanceMethod yX10_has, .selects RX10 yX10_has yX10_has, .code yX10_has cX10_has 2 (some .boolean), .fieldLink RX10 17 "RestBoard$Tree" "now" "LRestBoard$State;", .fieldLink RX10 26 "RestBoard$State" "size" "I", .methodLink RX11 89 yX11_refuse, .instanceMethod yX11_refuse, .selects RX11 yX11_refuse yX11_refuse, .code yX11_refuse cX11_refuse 3 (some .int), .fieldLink RX11 293 "RestBoard" "refusedBy" "I", .fieldLink RX11 69 "RestBoard" "refusals" "[I"] ++ wsX110 ++ wsX100 ++ wsX40 ++ wsX80)
set_option maxRecDepth 100000 in
theorem gg_X11_arm_X11_refusalToChange_157 : GoodIn v_X11_arm v_X11_refusalToChange := goodIn_r _ [5, 6, 7, 8, 9, 10, 11, 12, 13, 14, 15, 16, 17, 18, 19, 26, 27, 28, 29, 30, 31, 32, 33, 34, 35, 36, 37, 38, 39, 40, 41, 42, 43, 44, 45, 46, 47, 48, 49, 50, 51, 52, 53, 54, 55, 56, 57, 58, 59, 60, 61, 62, 63, 64, 65, 66, 67, 68, 69] (by decide +kernel) (by decide +kernel)
set_option maxRecDepth 100000 in
theorem g_X11_arm_X11_refusalToChange_157 : GoodIn v_X11_arm (wsV RX11 157 RX11 yX11_refusalToChange v_X11_refusalToChange) := goodIn_app (goodIn_r _ [1, 2, 3, 4] (by decide +kernel) (by decide +kernel)) gg_X11_arm_X11_refusalToChange_157
set_option maxRecDepth 100000 in
theorem gg_X11_arm_X11_refuse_89 : GoodIn v_X11_arm v_X11_refuse := goodIn_r _ [23, 24, 25, 26, 27, 28, 29, 30, 31, 32, 33, 34, 35, 36] (by decide +kernel) (by decide +kernel)
set_option maxRecDepth 100000 in
theorem g_X11_arm_X11_refuse_89 : GoodIn v_X11_arm (wsV RX11 89 RX11 yX11_refuse v_X11_refuse) := goodIn_app (goodIn_r _ [20, 21, 22, 4] (by decide +kernel) (by decide +kernel)) gg_X11_arm_X11_refuse_89
set_option maxHeartbeats 4000000 in
set_option maxRecDepth 100000 in
theorem c_X11_arm (l : Launch) (dC : Nat → ClassId) (dI : Nat → Nat → Nat) (cy : Nat → ClassId) (a : Nat → Nat) (g : Nat → Nat → Option Nat) (sz : Nat) (p0 : Int32) : Met l yX11_arm v_X11_arm ({ frames := 3, cells := 0, slots := 0, locals := 64 }) (va_Pc [.ref (a 0), .int p0] (ps dC dI cy (fw a cy g) sz)) (va_Qi (fun (r : Int32) (_ : Unit) => ((p0 = 0) ∧ r = (-2)) ∨ ((¬ p0 = 0) ∧ (p0 < 0) ∧ r = (-2)) ∨ ((¬ p0 = 0) ∧ (¬ p0 < 0) ∧ ((1 : Int32) ≤ p0) ∧ r = (-2))) (fun _ _ => True) (va_A (fw a cy g) sz)) 0 0 (va_A (fw a cy g) sz) := by
  refine Met.ofW (cc := cX11_arm) (maxL := 3) (ret := (some .int)) (by decide) rfl ?_
  intro p e s m args below meth c s₁ B hml hv
  obtain ⟨rfl, hsz, hP, hC, hD0⟩ := hv
  have hK := hC.1
  have hx := B.exec
  have hb := B.bytes
  have hr := B.returns
  have hts := atoms_spec (ws := v_X11_arm) B.pre
  have hown : s.vm.findClass RX11 = some m.cls := findClass_of_methodNamed B.named
  have hlocks := B.notSynchronized
  subst hsz
  have hD := hD0.self (sz := s.heap.size)
  generalize hAe : va_A (fw a cy g) s.heap.size = A at hD ⊢
  have hA : ∀ q : Nat, s.heap.size ≤ q → A q := fun q h => by rw [← hAe]; exact Or.inr h
  have hS : va_S A s.heap s.heap [] := va_S.rf
  have hl := lv_entry ([.ref (a 0), .int p0]) (n := 3) (Nat.le_of_ble_eq_true rfl)
  rw [lg_entry_eq]
  generalize (lg_sl ([.ref (a 0), .int p0]) ++ List.replicate (3 - (lg_sl ([.ref (a 0), .int p0])).length) Slot.unset).toArray = ls at hl ⊢
  have hl : lv_has ls 3 [(0, .ref (a 0)), (1, .int p0)] := hl
  refine lv_aload_n hx hb dX11_arm_0 rfl (lv_at hl 0 rfl) ?_
  refine lv_iload_n hx hb dX11_arm_1 rfl (lv_at hl 1 rfl) ?_
  refine tk_pi (va_runV (As := [.int p0]) (rest := []) ⟨hx, hb, hml, hown, hts⟩ (c_X11_refusalToChange l dC dI cy a g p0) (cwV 1 hts g_X11_arm_X11_refusalToChange_157 rfl rfl rfl (by decide +kernel) ⟨Nat.le_of_ble_eq_true rfl, Nat.le_of_ble_eq_true rfl⟩) (pv_pp hC hP (ci := 11) (q0 := 0) rfl rfl) rfl rfl hl.1 rfl (lv_room (Nat.le_of_ble_eq_true rfl)) dX11_arm_2 ⟨Nat.le_of_ble_eq_true rfl, Nat.le_of_ble_eq_true rfl⟩) hP hS (fun r_ H locs hw hP hS => ?_)
  rcases hw with ⟨c1_, rfl⟩ | ⟨c2_, c3_, rfl⟩ | ⟨c4_, c5_, c6_, rfl⟩
  · skip
    subst c1_
    refine lv_istore_n (lv' := [(2, .int (-2)), (0, .ref (a 0)), (1, .int 0)]) hx hb dX11_arm_5 rfl hl (by decide) rfl (fun ls hl => ?_)
    refine lv_iload_n hx hb dX11_arm_6 rfl (lv_at hl 0 rfl) ?_
    refine lv_if_ne (tgt := 37) hx hb dX11_arm_7 (by decide) (fun _ => ?_) (fun c9_ => absurd c9_ (by decide))
    refine lv_iload_n hx hb dX11_arm_37 rfl (lv_at hl 0 rfl) ?_
    refine lv_if_eq (tgt := 47) hx hb dX11_arm_38 (by decide) (fun c9_ => absurd c9_ (by decide)) (fun _ => ?_)
    refine lv_aload_n hx hb dX11_arm_41 rfl (lv_at hl 1 rfl) ?_
    refine lv_iload_n hx hb dX11_arm_42 rfl (lv_at hl 0 rfl) ?_
    have hPc : va_P (dC, dI) vwCl ([(a 0, .inr (11, [.ref (a 1), .ref (a 60), .ref (a 21), .ref (a 24), .ref (a 28), .ref (a 30), .ref (a 31), .ref (a 32), .ref (a 55), .int 0, .int (-1)])), (a 55, .inl (cy 0, 7, .inl (fun _ => 0)))]) _ := hP.sub [0, 55] rfl
    have hDc := hD.sub (ws' := [(a 0, .inr (11, [.ref (a 1), .ref (a 60), .ref (a 21), .ref (a 24), .ref (a 28), .ref (a 30), .ref (a 31), .ref (a 32), .ref (a 55), .int 0, .int (-1)])), (a 55, .inl (cy 0, 7, .inl (fun _ => 0)))]) [0, 55] (by decide) rfl
    have hFc := va_free (wc := [(a 0, .inr (11, [.ref (a 1), .ref (a 60), .ref (a 21), .ref (a 24), .ref (a 28), .ref (a 30), .ref (a 31), .ref (a 32), .ref (a 55), .int 0, .int (-1)])), (a 55, .inl (cy 0, 7, .inl (fun _ => 0)))]) hD hS hA [0, 55] rfl
    refine va_calli (va_runV (As := [.int (-2)]) (rest := []) ⟨hx, hb, hml, hown, hts⟩ (c_X11_refuse l dC dI cy a g _ (-2) (-1)) (cwV 1 hts g_X11_arm_X11_refuse_89 rfl rfl rfl (by decide +kernel) ⟨Nat.le_of_ble_eq_true rfl, Nat.le_of_ble_eq_true rfl⟩) (pv_ps hC hPc hDc (ci := 11) (q0 := 0) rfl rfl) rfl rfl hl.1 rfl (lv_room (Nat.le_of_ble_eq_true rfl)) dX11_arm_43 ⟨Nat.le_of_ble_eq_true rfl, Nat.le_of_ble_eq_true rfl⟩) hS (fun q _ h => hFc q h) hFc (fun r_ u t_ H1 locs ht hvm hw hB hz1 hk1 hS => ?_)
    obtain ⟨hP, hD⟩ := va_join (wr := []) (w1 := []) hP hD [0, 55] [] rfl rfl (by decide) (by decide) hk1 hFc va_P0 va_D0
    generalize H1 = H at hP hS ⊢
    have hP : va_P (dC, dI) vwCl ([]) H := hP
    have hD : va_D A ([]) := hD
    rcases hw with ⟨c7_, rfl⟩ | ⟨-, c9_, rfl⟩ | ⟨-, -, rfl⟩
    · skip
      exact absurd c7_ (by decide)
    · skip
      exact absurd c9_ (by decide)
    · skip
      exact W.iret (v := (-2)) hx hb hr (fun t ht hW => ⟨⟨(-2), (), rfl, Or.inl (⟨rfl, rfl⟩), trivial⟩, hS.F ht⟩) hS.2.2 dX11_arm_46
  · skip
    refine lv_istore_n (lv' := [(2, .int (-2)), (0, .ref (a 0)), (1, .int p0)]) hx hb dX11_arm_5 rfl hl (by decide) rfl (fun ls hl => ?_)
    refine lv_iload_n hx hb dX11_arm_6 rfl (lv_at hl 0 rfl) ?_
    refine lv_if_ne (tgt := 37) hx hb dX11_arm_7 (by decide) (fun _ => ?_) (fun c9_ => absurd c9_ (by decide))
    refine lv_iload_n hx hb dX11_arm_37 rfl (lv_at hl 0 rfl) ?_
    refine lv_if_eq (tgt := 47) hx hb dX11_arm_38 (by decide) (fun c9_ => absurd c9_ (by decide)) (fun _ => ?_)
    refine lv_aload_n hx hb dX11_arm_41 rfl (lv_at hl 1 rfl) ?_
    refine lv_iload_n hx hb dX11_arm_42 rfl (lv_at hl 0 rfl) ?_
    have hPc : va_P (dC, dI) vwCl ([(a 0, .inr (11, [.ref (a 1), .ref (a 60), .ref (a 21), .ref (a 24), .ref (a 28), .ref (a 30), .ref (a 31), .ref (a 32), .ref (a 55), .int 0, .int (-1)])), (a 55, .inl (cy 0, 7, .inl (fun _ => 0)))]) _ := hP.sub [0, 55] rfl
    have hDc := hD.sub (ws' := [(a 0, .inr (11, [.ref (a 1), .ref (a 60), .ref (a 21), .ref (a 24), .ref (a 28), .ref (a 30), .ref (a 31), .ref (a 32), .ref (a 55), .int 0, .int (-1)])), (a 55, .inl (cy 0, 7, .inl (fun _ => 0)))]) [0, 55] (by decide) rfl
    have hFc := va_free (wc := [(a 0, .inr (11, [.ref (a 1), .ref (a 60), .ref (a 21), .ref (a 24), .ref (a 28), .ref (a 30), .ref (a 31), .ref (a 32), .ref (a 55), .int 0, .int (-1)])), (a 55, .inl (cy 0, 7, .inl (fun _ => 0)))]) hD hS hA [0, 55] rfl
    refine va_calli (va_runV (As := [.int (-2)]) (rest := []) ⟨hx, hb, hml, hown, hts⟩ (c_X11_refuse l dC dI cy a g _ (-2) (-1)) (cwV 1 hts g_X11_arm_X11_refuse_89 rfl rfl rfl (by decide +kernel) ⟨Nat.le_of_ble_eq_true rfl, Nat.le_of_ble_eq_true rfl⟩) (pv_ps hC hPc hDc (ci := 11) (q0 := 0) rfl rfl) rfl rfl hl.1 rfl (lv_room (Nat.le_of_ble_eq_true rfl)) dX11_arm_43 ⟨Nat.le_of_ble_eq_true rfl, Nat.le_of_ble_eq_true rfl⟩) hS (fun q _ h => hFc q h) hFc (fun r_ u t_ H1 locs ht hvm hw hB hz1 hk1 hS => ?_)
    obtain ⟨hP, hD⟩ := va_join (wr := []) (w1 := []) hP hD [0, 55] [] rfl rfl (by decide) (by decide) hk1 hFc va_P0 va_D0
    generalize H1 = H at hP hS ⊢
    have hP : va_P (dC, dI) vwCl ([]) H := hP
    have hD : va_D A ([]) := hD
    rcases hw with ⟨c12_, rfl⟩ | ⟨-, c14_, rfl⟩ | ⟨-, -, rfl⟩
    · skip
      exact absurd c12_ (by decide)
    · skip
      exact absurd c14_ (by decide)
    · skip
      exact W.iret (v := (-2)) hx hb hr (fun t ht hW => ⟨⟨(-2), (), rfl, Or.inr (Or.inl (⟨c2_, c3_, rfl⟩)), trivial⟩, hS.F ht⟩) hS.2.2 dX11_arm_46
  · skip
    refine lv_istore_n (lv' := [(2, .int (-2)), (0, .ref (a 0)), (1, .int p0)]) hx hb dX11_arm_5 rfl hl (by decide) rfl (fun ls hl => ?_)
    refine lv_iload_n hx hb dX11_arm_6 rfl (lv_at hl 0 rfl) ?_
    refine lv_if_ne (tgt := 37) hx hb dX11_arm_7 (by decide) (fun _ => ?_) (fun c9_ => absurd c9_ (by decide))
    refine lv_iload_n hx hb dX11_arm_37 rfl (lv_at hl 0 rfl) ?_
    refine lv_if_eq (tgt := 47) hx hb dX11_arm_38 (by decide) (fun c9_ => absurd c9_ (by decide)) (fun _ => ?_)
    refine lv_aload_n hx hb dX11_arm_41 rfl (lv_at hl 1 rfl) ?_
    refine lv_iload_n hx hb dX11_arm_42 rfl (lv_at hl 0 rfl) ?_
    have hPc : va_P (dC, dI) vwCl ([(a 0, .inr (11, [.ref (a 1), .ref (a 60), .ref (a 21), .ref (a 24), .ref (a 28), .ref (a 30), .ref (a 31), .ref (a 32), .ref (a 55), .int 0, .int (-1)])), (a 55, .inl (cy 0, 7, .inl (fun _ => 0)))]) _ := hP.sub [0, 55] rfl
    have hDc := hD.sub (ws' := [(a 0, .inr (11, [.ref (a 1), .ref (a 60), .ref (a 21), .ref (a 24), .ref (a 28), .ref (a 30), .ref (a 31), .ref (a 32), .ref (a 55), .int 0, .int (-1)])), (a 55, .inl (cy 0, 7, .inl (fun _ => 0)))]) [0, 55] (by decide) rfl
    have hFc := va_free (wc := [(a 0, .inr (11, [.ref (a 1), .ref (a 60), .ref (a 21), .ref (a 24), .ref (a 28), .ref (a 30), .ref (a 31), .ref (a 32), .ref (a 55), .int 0, .int (-1)])), (a 55, .inl (cy 0, 7, .inl (fun _ => 0)))]) hD hS hA [0, 55] rfl
    refine va_calli (va_runV (As := [.int (-2)]) (rest := []) ⟨hx, hb, hml, hown, hts⟩ (c_X11_refuse l dC dI cy a g _ (-2) (-1)) (cwV 1 hts g_X11_arm_X11_refuse_89 rfl rfl rfl (by decide +kernel) ⟨Nat.le_of_ble_eq_true rfl, Nat.le_of_ble_eq_true rfl⟩) (pv_ps hC hPc hDc (ci := 11) (q0 := 0) rfl rfl) rfl rfl hl.1 rfl (lv_room (Nat.le_of_ble_eq_true rfl)) dX11_arm_43 ⟨Nat.le_of_ble_eq_true rfl, Nat.le_of_ble_eq_true rfl⟩) hS (fun q _ h => hFc q h) hFc (fun r_ u t_ H1 locs ht hvm hw hB hz1 hk1 hS => ?_)
    obtain ⟨hP, hD⟩ := va_join (wr := []) (w1 := []) hP hD [0, 55] [] rfl rfl (by decide) (by decide) hk1 hFc va_P0 va_D0
    generalize H1 = H at hP hS ⊢
    have hP : va_P (dC, dI) vwCl ([]) H := hP
    have hD : va_D A ([]) := hD
    rcases hw with ⟨c17_, rfl⟩ | ⟨-, c19_, rfl⟩ | ⟨-, -, rfl⟩
    · skip
      exact absurd c17_ (by decide)
    · skip
      exact absurd c19_ (by decide)
    · skip
      exact W.iret (v := (-2)) hx hb hr (fun t ht hW => ⟨⟨(-2), (), rfl, Or.inr (Or.inr (⟨c4_, c5_, c6_, rfl⟩)), trivial⟩, hS.F ht⟩) hS.2.2 dX11_arm_46

theorem dX11_disarm_0 : decode cX11_disarm 0 = .ok (.aload_n 0, 1) := by decide +kernel
theorem dX11_disarm_1 : decode cX11_disarm 1 = .ok (.iload_n 1, 1) := by decide +kernel
theorem dX11_disarm_2 : decode cX11_disarm 2 = .ok (.invokevirtual 157, 3) := by decide +kernel
theorem dX11_disarm_5 : decode cX11_disarm 5 = .ok (.istore_n 2, 1) := by decide +kernel
theorem dX11_disarm_6 : decode cX11_disarm 6 = .ok (.iload_n 2, 1) := by decide +kernel
theorem dX11_disarm_7 : decode cX11_disarm 7 = .ok (.ifCond .ne 19, 3) := by decide +kernel
theorem dX11_disarm_26 : decode cX11_disarm 26 = .ok (.iload_n 2, 1) := by decide +kernel
theorem dX11_disarm_27 : decode cX11_disarm 27 = .ok (.ifCond .eq 9, 3) := by decide +kernel
theorem dX11_disarm_30 : decode cX11_disarm 30 = .ok (.aload_n 0, 1) := by decide +kernel
theorem dX11_disarm_31 : decode cX11_disarm 31 = .ok (.iload_n 2, 1) := by decide +kernel
theorem dX11_disarm_32 : decode cX11_disarm 32 = .ok (.invokevirtual 89, 3) := by decide +kernel
theorem dX11_disarm_35 : decode cX11_disarm 35 = .ok (.ireturn, 1) := by decide +kernel
def v_X11_disarm : List Cond := .code yX11_disarm cX11_disarm 3 (some .int) :: ([.methodLink RX11 157 yX11_refusalToChange, .instanceMethod yX11_refusalToChange, .selects RX11 yX11_refusalToChange yX11_refusalToChange, .initialized RX11, .code yX11_refusalToChange cX11_refusalToChange 2 (some .int), .fieldLink RX11 24 "RestBoard" "tree" "LRestBoard$Tree;", .methodLink RX11 85 yX10_is, .instanceMethod yX10_is, .selects RX10 yX10_is yX10_is, .initialized RX10, .code yX10_is cX10_is 3 (some .boolean), .fieldLink RX10 11 "RestBoard$Tree" "nodes" "[LRestBoard$Node;", .fieldLink RX10 36 "RestBoard$Node" "kind" "I", .methodLink RX10 32 yX10_has, .instanceMethod yX10_has, .selects RX10 yX10_has yX10_has, .code yX10_has cX10_has 2 (some .boolean), .fieldLink RX10 17 "RestBoard$Tree" "now" "LRestBoard$State;", .fieldLink RX10 26 "RestBoard$State" "size" "I", .methodLink RX11 89 yX11_refuse, .instanceMethod yX11_refuse, .selects RX11 yX11_refuse yX11_refuse, .code yX11_refuse cX11_refuse 3 (some .int), .fieldLink RX11 293 "RestBoard" "refusedBy" "I", .fieldLink RX11 69 "RestBoard" "refusals" "[I"] ++ wsX110 ++ wsX100 ++ wsX40 ++ wsX80)
set_option maxRecDepth 100000 in
theorem gg_X11_disarm_X11_refusalToChange_157 : GoodIn v_X11_disarm v_X11_refusalToChange := goodIn_r _ [5, 6, 7, 8, 9, 10, 11, 12, 13, 14, 15, 16, 17, 18, 19, 26, 27, 28, 29, 30, 31, 32, 33, 34, 35, 36, 37, 38, 39, 40, 41, 42, 43, 44, 45, 46, 47, 48, 49, 50, 51, 52, 53, 54, 55, 56, 57, 58, 59, 60, 61, 62, 63, 64, 65, 66, 67, 68, 69] (by decide +kernel) (by decide +kernel)
set_option maxRecDepth 100000 in
theorem g_X11_disarm_X11_refusalToChange_157 : GoodIn v_X11_disarm (wsV RX11 157 RX11 yX11_refusalToChange v_X11_refusalToChange) := goodIn_app (goodIn_r _ [1, 2, 3, 4] (by decide +kernel) (by decide +kernel)) gg_X11_disarm_X11_refusalToChange_157
set_option maxRecDepth 100000 in
theorem gg_X11_disarm_X11_refuse_89 : GoodIn v_X11_disarm v_X11_refuse := goodIn_r _ [23, 24, 25, 26, 27, 28, 29, 30, 31, 32, 33, 34, 35, 36] (by decide +kernel) (by decide +kernel)
set_option maxRecDepth 100000 in
theorem g_X11_disarm_X11_refuse_89 : GoodIn v_X11_disarm (wsV RX11 89 RX11 yX11_refuse v_X11_refuse) := goodIn_app (goodIn_r _ [20, 21, 22, 4] (by decide +kernel) (by decide +kernel)) gg_X11_disarm_X11_refuse_89
set_option maxHeartbeats 4000000 in
set_option maxRecDepth 100000 in
theorem c_X11_disarm (l : Launch) (dC : Nat → ClassId) (dI : Nat → Nat → Nat) (cy : Nat → ClassId) (a : Nat → Nat) (g : Nat → Nat → Option Nat) (sz : Nat) (p0 : Int32) : Met l yX11_disarm v_X11_disarm ({ frames := 3, cells := 0, slots := 0, locals := 64 }) (va_Pc [.ref (a 0), .int p0] (ps dC dI cy (fw a cy g) sz)) (va_Qi (fun (r : Int32) (_ : Unit) => ((p0 = 0) ∧ r = (-2)) ∨ ((¬ p0 = 0) ∧ (p0 < 0) ∧ r = (-2)) ∨ ((¬ p0 = 0) ∧ (¬ p0 < 0) ∧ ((1 : Int32) ≤ p0) ∧ r = (-2))) (fun _ _ => True) (va_A (fw a cy g) sz)) 0 0 (va_A (fw a cy g) sz) := by
  refine Met.ofW (cc := cX11_disarm) (maxL := 3) (ret := (some .int)) (by decide) rfl ?_
  intro p e s m args below meth c s₁ B hml hv
  obtain ⟨rfl, hsz, hP, hC, hD0⟩ := hv
  have hK := hC.1
  have hx := B.exec
  have hb := B.bytes
  have hr := B.returns
  have hts := atoms_spec (ws := v_X11_disarm) B.pre
  have hown : s.vm.findClass RX11 = some m.cls := findClass_of_methodNamed B.named
  have hlocks := B.notSynchronized
  subst hsz
  have hD := hD0.self (sz := s.heap.size)
  generalize hAe : va_A (fw a cy g) s.heap.size = A at hD ⊢
  have hA : ∀ q : Nat, s.heap.size ≤ q → A q := fun q h => by rw [← hAe]; exact Or.inr h
  have hS : va_S A s.heap s.heap [] := va_S.rf
  have hl := lv_entry ([.ref (a 0), .int p0]) (n := 3) (Nat.le_of_ble_eq_true rfl)
  rw [lg_entry_eq]
  generalize (lg_sl ([.ref (a 0), .int p0]) ++ List.replicate (3 - (lg_sl ([.ref (a 0), .int p0])).length) Slot.unset).toArray = ls at hl ⊢
  have hl : lv_has ls 3 [(0, .ref (a 0)), (1, .int p0)] := hl
  refine lv_aload_n hx hb dX11_disarm_0 rfl (lv_at hl 0 rfl) ?_
  refine lv_iload_n hx hb dX11_disarm_1 rfl (lv_at hl 1 rfl) ?_
  refine tk_pi (va_runV (As := [.int p0]) (rest := []) ⟨hx, hb, hml, hown, hts⟩ (c_X11_refusalToChange l dC dI cy a g p0) (cwV 1 hts g_X11_disarm_X11_refusalToChange_157 rfl rfl rfl (by decide +kernel) ⟨Nat.le_of_ble_eq_true rfl, Nat.le_of_ble_eq_true rfl⟩) (pv_pp hC hP (ci := 11) (q0 := 0) rfl rfl) rfl rfl hl.1 rfl (lv_room (Nat.le_of_ble_eq_true rfl)) dX11_disarm_2 ⟨Nat.le_of_ble_eq_true rfl, Nat.le_of_ble_eq_true rfl⟩) hP hS (fun r_ H locs hw hP hS => ?_)
  rcases hw with ⟨c1_, rfl⟩ | ⟨c2_, c3_, rfl⟩ | ⟨c4_, c5_, c6_, rfl⟩
  · skip
    subst c1_
    refine lv_istore_n (lv' := [(2, .int (-2)), (0, .ref (a 0)), (1, .int 0)]) hx hb dX11_disarm_5 rfl hl (by decide) rfl (fun ls hl => ?_)
    refine lv_iload_n hx hb dX11_disarm_6 rfl (lv_at hl 0 rfl) ?_
    refine lv_if_ne (tgt := 26) hx hb dX11_disarm_7 (by decide) (fun _ => ?_) (fun c9_ => absurd c9_ (by decide))
    refine lv_iload_n hx hb dX11_disarm_26 rfl (lv_at hl 0 rfl) ?_
    refine lv_if_eq (tgt := 36) hx hb dX11_disarm_27 (by decide) (fun c9_ => absurd c9_ (by decide)) (fun _ => ?_)
    refine lv_aload_n hx hb dX11_disarm_30 rfl (lv_at hl 1 rfl) ?_
    refine lv_iload_n hx hb dX11_disarm_31 rfl (lv_at hl 0 rfl) ?_
    have hPc : va_P (dC, dI) vwCl ([(a 0, .inr (11, [.ref (a 1), .ref (a 60), .ref (a 21), .ref (a 24), .ref (a 28), .ref (a 30), .ref (a 31), .ref (a 32), .ref (a 55), .int 0, .int (-1)])), (a 55, .inl (cy 0, 7, .inl (fun _ => 0)))]) _ := hP.sub [0, 55] rfl
    have hDc := hD.sub (ws' := [(a 0, .inr (11, [.ref (a 1), .ref (a 60), .ref (a 21), .ref (a 24), .ref (a 28), .ref (a 30), .ref (a 31), .ref (a 32), .ref (a 55), .int 0, .int (-1)])), (a 55, .inl (cy 0, 7, .inl (fun _ => 0)))]) [0, 55] (by decide) rfl
    have hFc := va_free (wc := [(a 0, .inr (11, [.ref (a 1), .ref (a 60), .ref (a 21), .ref (a 24), .ref (a 28), .ref (a 30), .ref (a 31), .ref (a 32), .ref (a 55), .int 0, .int (-1)])), (a 55, .inl (cy 0, 7, .inl (fun _ => 0)))]) hD hS hA [0, 55] rfl
    refine va_calli (va_runV (As := [.int (-2)]) (rest := []) ⟨hx, hb, hml, hown, hts⟩ (c_X11_refuse l dC dI cy a g _ (-2) (-1)) (cwV 1 hts g_X11_disarm_X11_refuse_89 rfl rfl rfl (by decide +kernel) ⟨Nat.le_of_ble_eq_true rfl, Nat.le_of_ble_eq_true rfl⟩) (pv_ps hC hPc hDc (ci := 11) (q0 := 0) rfl rfl) rfl rfl hl.1 rfl (lv_room (Nat.le_of_ble_eq_true rfl)) dX11_disarm_32 ⟨Nat.le_of_ble_eq_true rfl, Nat.le_of_ble_eq_true rfl⟩) hS (fun q _ h => hFc q h) hFc (fun r_ u t_ H1 locs ht hvm hw hB hz1 hk1 hS => ?_)
    obtain ⟨hP, hD⟩ := va_join (wr := []) (w1 := []) hP hD [0, 55] [] rfl rfl (by decide) (by decide) hk1 hFc va_P0 va_D0
    generalize H1 = H at hP hS ⊢
    have hP : va_P (dC, dI) vwCl ([]) H := hP
    have hD : va_D A ([]) := hD
    rcases hw with ⟨c7_, rfl⟩ | ⟨-, c9_, rfl⟩ | ⟨-, -, rfl⟩
    · skip
      exact absurd c7_ (by decide)
    · skip
      exact absurd c9_ (by decide)
    · skip
      exact W.iret (v := (-2)) hx hb hr (fun t ht hW => ⟨⟨(-2), (), rfl, Or.inl (⟨rfl, rfl⟩), trivial⟩, hS.F ht⟩) hS.2.2 dX11_disarm_35
  · skip
    refine lv_istore_n (lv' := [(2, .int (-2)), (0, .ref (a 0)), (1, .int p0)]) hx hb dX11_disarm_5 rfl hl (by decide) rfl (fun ls hl => ?_)
    refine lv_iload_n hx hb dX11_disarm_6 rfl (lv_at hl 0 rfl) ?_
    refine lv_if_ne (tgt := 26) hx hb dX11_disarm_7 (by decide) (fun _ => ?_) (fun c9_ => absurd c9_ (by decide))
    refine lv_iload_n hx hb dX11_disarm_26 rfl (lv_at hl 0 rfl) ?_
    refine lv_if_eq (tgt := 36) hx hb dX11_disarm_27 (by decide) (fun c9_ => absurd c9_ (by decide)) (fun _ => ?_)
    refine lv_aload_n hx hb dX11_disarm_30 rfl (lv_at hl 1 rfl) ?_
    refine lv_iload_n hx hb dX11_disarm_31 rfl (lv_at hl 0 rfl) ?_
    have hPc : va_P (dC, dI) vwCl ([(a 0, .inr (11, [.ref (a 1), .ref (a 60), .ref (a 21), .ref (a 24), .ref (a 28), .ref (a 30), .ref (a 31), .ref (a 32), .ref (a 55), .int 0, .int (-1)])), (a 55, .inl (cy 0, 7, .inl (fun _ => 0)))]) _ := hP.sub [0, 55] rfl
    have hDc := hD.sub (ws' := [(a 0, .inr (11, [.ref (a 1), .ref (a 60), .ref (a 21), .ref (a 24), .ref (a 28), .ref (a 30), .ref (a 31), .ref (a 32), .ref (a 55), .int 0, .int (-1)])), (a 55, .inl (cy 0, 7, .inl (fun _ => 0)))]) [0, 55] (by decide) rfl
    have hFc := va_free (wc := [(a 0, .inr (11, [.ref (a 1), .ref (a 60), .ref (a 21), .ref (a 24), .ref (a 28), .ref (a 30), .ref (a 31), .ref (a 32), .ref (a 55), .int 0, .int (-1)])), (a 55, .inl (cy 0, 7, .inl (fun _ => 0)))]) hD hS hA [0, 55] rfl
    refine va_calli (va_runV (As := [.int (-2)]) (rest := []) ⟨hx, hb, hml, hown, hts⟩ (c_X11_refuse l dC dI cy a g _ (-2) (-1)) (cwV 1 hts g_X11_disarm_X11_refuse_89 rfl rfl rfl (by decide +kernel) ⟨Nat.le_of_ble_eq_true rfl, Nat.le_of_ble_eq_true rfl⟩) (pv_ps hC hPc hDc (ci := 11) (q0 := 0) rfl rfl) rfl rfl hl.1 rfl (lv_room (Nat.le_of_ble_eq_true rfl)) dX11_disarm_32 ⟨Nat.le_of_ble_eq_true rfl, Nat.le_of_ble_eq_true rfl⟩) hS (fun q _ h => hFc q h) hFc (fun r_ u t_ H1 locs ht hvm hw hB hz1 hk1 hS => ?_)
    obtain ⟨hP, hD⟩ := va_join (wr := []) (w1 := []) hP hD [0, 55] [] rfl rfl (by decide) (by decide) hk1 hFc va_P0 va_D0
    generalize H1 = H at hP hS ⊢
    have hP : va_P (dC, dI) vwCl ([]) H := hP
    have hD : va_D A ([]) := hD
    rcases hw with ⟨c12_, rfl⟩ | ⟨-, c14_, rfl⟩ | ⟨-, -, rfl⟩
    · skip
      exact absurd c12_ (by decide)
    · skip
      exact absurd c14_ (by decide)
    · skip
      exact W.iret (v := (-2)) hx hb hr (fun t ht hW => ⟨⟨(-2), (), rfl, Or.inr (Or.inl (⟨c2_, c3_, rfl⟩)), trivial⟩, hS.F ht⟩) hS.2.2 dX11_disarm_35
  · skip
    refine lv_istore_n (lv' := [(2, .int (-2)), (0, .ref (a 0)), (1, .int p0)]) hx hb dX11_disarm_5 rfl hl (by decide) rfl (fun ls hl => ?_)
    refine lv_iload_n hx hb dX11_disarm_6 rfl (lv_at hl 0 rfl) ?_
    refine lv_if_ne (tgt := 26) hx hb dX11_disarm_7 (by decide) (fun _ => ?_) (fun c9_ => absurd c9_ (by decide))
    refine lv_iload_n hx hb dX11_disarm_26 rfl (lv_at hl 0 rfl) ?_
    refine lv_if_eq (tgt := 36) hx hb dX11_disarm_27 (by decide) (fun c9_ => absurd c9_ (by decide)) (fun _ => ?_)
    refine lv_aload_n hx hb dX11_disarm_30 rfl (lv_at hl 1 rfl) ?_
    refine lv_iload_n hx hb dX11_disarm_31 rfl (lv_at hl 0 rfl) ?_
    have hPc : va_P (dC, dI) vwCl ([(a 0, .inr (11, [.ref (a 1), .ref (a 60), .ref (a 21), .ref (a 24), .ref (a 28), .ref (a 30), .ref (a 31), .ref (a 32), .ref (a 55), .int 0, .int (-1)])), (a 55, .inl (cy 0, 7, .inl (fun _ => 0)))]) _ := hP.sub [0, 55] rfl
    have hDc := hD.sub (ws' := [(a 0, .inr (11, [.ref (a 1), .ref (a 60), .ref (a 21), .ref (a 24), .ref (a 28), .ref (a 30), .ref (a 31), .ref (a 32), .ref (a 55), .int 0, .int (-1)])), (a 55, .inl (cy 0, 7, .inl (fun _ => 0)))]) [0, 55] (by decide) rfl
    have hFc := va_free (wc := [(a 0, .inr (11, [.ref (a 1), .ref (a 60), .ref (a 21), .ref (a 24), .ref (a 28), .ref (a 30), .ref (a 31), .ref (a 32), .ref (a 55), .int 0, .int (-1)])), (a 55, .inl (cy 0, 7, .inl (fun _ => 0)))]) hD hS hA [0, 55] rfl
    refine va_calli (va_runV (As := [.int (-2)]) (rest := []) ⟨hx, hb, hml, hown, hts⟩ (c_X11_refuse l dC dI cy a g _ (-2) (-1)) (cwV 1 hts g_X11_disarm_X11_refuse_89 rfl rfl rfl (by decide +kernel) ⟨Nat.le_of_ble_eq_true rfl, Nat.le_of_ble_eq_true rfl⟩) (pv_ps hC hPc hDc (ci := 11) (q0 := 0) rfl rfl) rfl rfl hl.1 rfl (lv_room (Nat.le_of_ble_eq_true rfl)) dX11_disarm_32 ⟨Nat.le_of_ble_eq_true rfl, Nat.le_of_ble_eq_true rfl⟩) hS (fun q _ h => hFc q h) hFc (fun r_ u t_ H1 locs ht hvm hw hB hz1 hk1 hS => ?_)
    obtain ⟨hP, hD⟩ := va_join (wr := []) (w1 := []) hP hD [0, 55] [] rfl rfl (by decide) (by decide) hk1 hFc va_P0 va_D0
    generalize H1 = H at hP hS ⊢
    have hP : va_P (dC, dI) vwCl ([]) H := hP
    have hD : va_D A ([]) := hD
    rcases hw with ⟨c17_, rfl⟩ | ⟨-, c19_, rfl⟩ | ⟨-, -, rfl⟩
    · skip
      exact absurd c17_ (by decide)
    · skip
      exact absurd c19_ (by decide)
    · skip
      exact W.iret (v := (-2)) hx hb hr (fun t ht hW => ⟨⟨(-2), (), rfl, Or.inr (Or.inr (⟨c4_, c5_, c6_, rfl⟩)), trivial⟩, hS.F ht⟩) hS.2.2 dX11_disarm_35

theorem dX11_rest_0 : decode cX11_rest 0 = .ok (.aload_n 0, 1) := by decide +kernel
theorem dX11_rest_1 : decode cX11_rest 1 = .ok (.iload_n 1, 1) := by decide +kernel
theorem dX11_rest_2 : decode cX11_rest 2 = .ok (.invokevirtual 172, 3) := by decide +kernel
theorem dX11_rest_5 : decode cX11_rest 5 = .ok (.istore_n 2, 1) := by decide +kernel
theorem dX11_rest_6 : decode cX11_rest 6 = .ok (.iload_n 2, 1) := by decide +kernel
theorem dX11_rest_7 : decode cX11_rest 7 = .ok (.ifCond .eq 9, 3) := by decide +kernel
theorem dX11_rest_10 : decode cX11_rest 10 = .ok (.aload_n 0, 1) := by decide +kernel
theorem dX11_rest_11 : decode cX11_rest 11 = .ok (.iload_n 2, 1) := by decide +kernel
theorem dX11_rest_12 : decode cX11_rest 12 = .ok (.invokevirtual 89, 3) := by decide +kernel
theorem dX11_rest_15 : decode cX11_rest 15 = .ok (.ireturn, 1) := by decide +kernel
def v_X11_rest : List Cond := .code yX11_rest cX11_rest 4 (some .int) :: ([.methodLink RX11 172 yX11_refusalToRest, .instanceMethod yX11_refusalToRest, .selects RX11 yX11_refusalToRest yX11_refusalToRest, .initialized RX11, .code yX11_refusalToRest cX11_refusalToRest 2 (some .int), .fieldLink RX11 10 "RestBoard" "now" "LRestBoard$State;", .fieldLink RX11 92 "RestBoard$State" "resting" "I", .fieldLink RX11 58 "RestBoard" "rests" "LRestBoard$Rests;", .methodLink RX11 239 yX7_obstacle, .instanceMethod yX7_obstacle, .selects RX7 yX7_obstacle yX7_obstacle, .initialized RX7, .code yX7_obstacle cX7_obstacle 4 (some .int), .methodLink RX7 31 yX7_numberOf, .instanceMethod yX7_numberOf, .selects RX7 yX7_numberOf yX7_numberOf, .code yX7_numberOf cX7_numberOf 2 (some .int), .fieldLink RX7 15 "RestBoard$Rests" "tree" "LRestBoard$Tree;", .methodLink RX7 73 yX10_own, .instanceMethod yX10_own, .selects RX10 yX10_own yX10_own, .initialized RX10, .code yX10_own cX10_own 5 (some .int), .fieldLink RX10 17 "RestBoard$Tree" "now" "LRestBoard$State;", .fieldLink RX10 26 "RestBoard$State" "size" "I", .methodLink RX10 49 yX10_child, .instanceMethod yX10_child, .selects RX10 yX10_child yX10_child, .code yX10_child cX10_child 5 (some .int), .methodLink RX11 89 yX11_refuse, .instanceMethod yX11_refuse, .selects RX11 yX11_refuse yX11_refuse, .code yX11_refuse cX11_refuse 3 (some .int), .fieldLink RX11 293 "RestBoard" "refusedBy" "I", .fieldLink RX11 69 "RestBoard" "refusals" "[I"] ++ wsX110 ++ wsX80 ++ wsX70 ++ wsX100)
set_option maxRecDepth 100000 in
theorem gg_X11_rest_X11_refusalToRest_172 : GoodIn v_X11_rest v_X11_refusalToRest := goodIn_r _ [5, 6, 7, 8, 9, 10, 11, 12, 13, 14, 15, 16, 17, 18, 19, 20, 21, 22, 23, 24, 25, 26, 27, 28, 29, 36, 37, 38, 39, 40, 41, 42, 43, 44, 45, 46, 47, 48, 49, 50, 51, 52, 53, 54, 55, 56, 57, 58, 59, 60, 61, 62, 63, 64, 65, 66, 67, 68, 69, 70] (by decide +kernel) (by decide +kernel)
set_option maxRecDepth 100000 in
theorem g_X11_rest_X11_refusalToRest_172 : GoodIn v_X11_rest (wsV RX11 172 RX11 yX11_refusalToRest v_X11_refusalToRest) := goodIn_app (goodIn_r _ [1, 2, 3, 4] (by decide +kernel) (by decide +kernel)) gg_X11_rest_X11_refusalToRest_172
set_option maxRecDepth 100000 in
theorem gg_X11_rest_X11_refuse_89 : GoodIn v_X11_rest v_X11_refuse := goodIn_r _ [33, 34, 35, 36, 37, 38, 39, 40, 41, 42, 43, 44, 45, 46] (by decide +kernel) (by decide +kernel)
set_option maxRecDepth 100000 in
theorem g_X11_rest_X11_refuse_89 : GoodIn v_X11_rest (wsV RX11 89 RX11 yX11_refuse v_X11_refuse) := goodIn_app (goodIn_r _ [30, 31, 32, 4] (by decide +kernel) (by decide +kernel)) gg_X11_rest_X11_refuse_89
set_option maxHeartbeats 4000000 in
set_option maxRecDepth 100000 in
theorem c_X11_rest (l : Launch) (dC : Nat → ClassId) (dI : Nat → Nat → Nat) (cy : Nat → ClassId) (a : Nat → Nat) (g : Nat → Nat → Option Nat) (sz : Nat) (p0 : Int32) : Met l yX11_rest v_X11_rest ({ frames := 5, cells := 0, slots := 0, locals := 113 }) (va_Pc [.ref (a 0), .int p0] (ps dC dI cy (fw a cy g) sz)) (va_Qi (fun (r : Int32) (_ : Unit) => ((p0 < 1) ∧ r = (-1)) ∨ ((¬ p0 < 1) ∧ (p0 ≤ 4) ∧ r = (-4)) ∨ ((¬ p0 < 1) ∧ (¬ p0 ≤ 4) ∧ r = (-1))) (fun _ _ => True) (va_A (fw a cy g) sz)) 0 0 (va_A (fw a cy g) sz) := by
  refine Met.ofW (cc := cX11_rest) (maxL := 4) (ret := (some .int)) (by decide) rfl ?_
  intro p e s m args below meth c s₁ B hml hv
  obtain ⟨rfl, hsz, hP, hC, hD0⟩ := hv
  have hK := hC.1
  have hx := B.exec
  have hb := B.bytes
  have hr := B.returns
  have hts := atoms_spec (ws := v_X11_rest) B.pre
  have hown : s.vm.findClass RX11 = some m.cls := findClass_of_methodNamed B.named
  have hlocks := B.notSynchronized
  subst hsz
  have hD := hD0.self (sz := s.heap.size)
  generalize hAe : va_A (fw a cy g) s.heap.size = A at hD ⊢
  have hA : ∀ q : Nat, s.heap.size ≤ q → A q := fun q h => by rw [← hAe]; exact Or.inr h
  have hS : va_S A s.heap s.heap [] := va_S.rf
  have hl := lv_entry ([.ref (a 0), .int p0]) (n := 4) (Nat.le_of_ble_eq_true rfl)
  rw [lg_entry_eq]
  generalize (lg_sl ([.ref (a 0), .int p0]) ++ List.replicate (4 - (lg_sl ([.ref (a 0), .int p0])).length) Slot.unset).toArray = ls at hl ⊢
  have hl : lv_has ls 4 [(0, .ref (a 0)), (1, .int p0)] := hl
  refine lv_aload_n hx hb dX11_rest_0 rfl (lv_at hl 0 rfl) ?_
  refine lv_iload_n hx hb dX11_rest_1 rfl (lv_at hl 1 rfl) ?_
  refine tk_pi (va_runV (As := [.int p0]) (rest := []) ⟨hx, hb, hml, hown, hts⟩ (c_X11_refusalToRest l dC dI cy a g p0) (cwV 1 hts g_X11_rest_X11_refusalToRest_172 rfl rfl rfl (by decide +kernel) ⟨Nat.le_of_ble_eq_true rfl, Nat.le_of_ble_eq_true rfl⟩) (pv_pp hC hP (ci := 11) (q0 := 0) rfl rfl) rfl rfl hl.1 rfl (lv_room (Nat.le_of_ble_eq_true rfl)) dX11_rest_2 ⟨Nat.le_of_ble_eq_true rfl, Nat.le_of_ble_eq_true rfl⟩) hP hS (fun r_ H locs hw hP hS => ?_)
  rcases hw with ⟨c1_, rfl⟩ | ⟨c2_, c3_, rfl⟩ | ⟨c4_, c5_, rfl⟩
  · skip
    refine lv_istore_n (lv' := [(2, .int (-1)), (0, .ref (a 0)), (1, .int p0)]) hx hb dX11_rest_5 rfl hl (by decide) rfl (fun ls hl => ?_)
    refine lv_iload_n hx hb dX11_rest_6 rfl (lv_at hl 0 rfl) ?_
    refine lv_if_eq (tgt := 16) hx hb dX11_rest_7 (by decide) (fun c9_ => absurd c9_ (by decide)) (fun _ => ?_)
    refine lv_aload_n hx hb dX11_rest_10 rfl (lv_at hl 1 rfl) ?_
    refine lv_iload_n hx hb dX11_rest_11 rfl (lv_at hl 0 rfl) ?_
    have hPc : va_P (dC, dI) vwCl ([(a 0, .inr (11, [.ref (a 1), .ref (a 60), .ref (a 21), .ref (a 24), .ref (a 28), .ref (a 30), .ref (a 31), .ref (a 32), .ref (a 55), .int 0, .int (-1)])), (a 55, .inl (cy 0, 7, .inl (fun _ => 0)))]) _ := hP.sub [0, 55] rfl
    have hDc := hD.sub (ws' := [(a 0, .inr (11, [.ref (a 1), .ref (a 60), .ref (a 21), .ref (a 24), .ref (a 28), .ref (a 30), .ref (a 31), .ref (a 32), .ref (a 55), .int 0, .int (-1)])), (a 55, .inl (cy 0, 7, .inl (fun _ => 0)))]) [0, 55] (by decide) rfl
    have hFc := va_free (wc := [(a 0, .inr (11, [.ref (a 1), .ref (a 60), .ref (a 21), .ref (a 24), .ref (a 28), .ref (a 30), .ref (a 31), .ref (a 32), .ref (a 55), .int 0, .int (-1)])), (a 55, .inl (cy 0, 7, .inl (fun _ => 0)))]) hD hS hA [0, 55] rfl
    refine va_calli (va_runV (As := [.int (-1)]) (rest := []) ⟨hx, hb, hml, hown, hts⟩ (c_X11_refuse l dC dI cy a g _ (-1) (-1)) (cwV 1 hts g_X11_rest_X11_refuse_89 rfl rfl rfl (by decide +kernel) ⟨Nat.le_of_ble_eq_true rfl, Nat.le_of_ble_eq_true rfl⟩) (pv_ps hC hPc hDc (ci := 11) (q0 := 0) rfl rfl) rfl rfl hl.1 rfl (lv_room (Nat.le_of_ble_eq_true rfl)) dX11_rest_12 ⟨Nat.le_of_ble_eq_true rfl, Nat.le_of_ble_eq_true rfl⟩) hS (fun q _ h => hFc q h) hFc (fun r_ u t_ H1 locs ht hvm hw hB hz1 hk1 hS => ?_)
    obtain ⟨hP, hD⟩ := va_join (wr := []) (w1 := []) hP hD [0, 55] [] rfl rfl (by decide) (by decide) hk1 hFc va_P0 va_D0
    generalize H1 = H at hP hS ⊢
    have hP : va_P (dC, dI) vwCl ([]) H := hP
    have hD : va_D A ([]) := hD
    rcases hw with ⟨c6_, rfl⟩ | ⟨-, c8_, rfl⟩ | ⟨-, -, rfl⟩
    · skip
      exact absurd c6_ (by decide)
    · skip
      exact absurd c8_ (by decide)
    · skip
      exact W.iret (v := (-1)) hx hb hr (fun t ht hW => ⟨⟨(-1), (), rfl, Or.inl (⟨c1_, rfl⟩), trivial⟩, hS.F ht⟩) hS.2.2 dX11_rest_15
  · skip
    refine lv_istore_n (lv' := [(2, .int (-4)), (0, .ref (a 0)), (1, .int p0)]) hx hb dX11_rest_5 rfl hl (by decide) rfl (fun ls hl => ?_)
    refine lv_iload_n hx hb dX11_rest_6 rfl (lv_at hl 0 rfl) ?_
    refine lv_if_eq (tgt := 16) hx hb dX11_rest_7 (by decide) (fun c9_ => absurd c9_ (by decide)) (fun _ => ?_)
    refine lv_aload_n hx hb dX11_rest_10 rfl (lv_at hl 1 rfl) ?_
    refine lv_iload_n hx hb dX11_rest_11 rfl (lv_at hl 0 rfl) ?_
    have hPc : va_P (dC, dI) vwCl ([(a 0, .inr (11, [.ref (a 1), .ref (a 60), .ref (a 21), .ref (a 24), .ref (a 28), .ref (a 30), .ref (a 31), .ref (a 32), .ref (a 55), .int 0, .int (-1)])), (a 55, .inl (cy 0, 7, .inl (fun _ => 0)))]) _ := hP.sub [0, 55] rfl
    have hDc := hD.sub (ws' := [(a 0, .inr (11, [.ref (a 1), .ref (a 60), .ref (a 21), .ref (a 24), .ref (a 28), .ref (a 30), .ref (a 31), .ref (a 32), .ref (a 55), .int 0, .int (-1)])), (a 55, .inl (cy 0, 7, .inl (fun _ => 0)))]) [0, 55] (by decide) rfl
    have hFc := va_free (wc := [(a 0, .inr (11, [.ref (a 1), .ref (a 60), .ref (a 21), .ref (a 24), .ref (a 28), .ref (a 30), .ref (a 31), .ref (a 32), .ref (a 55), .int 0, .int (-1)])), (a 55, .inl (cy 0, 7, .inl (fun _ => 0)))]) hD hS hA [0, 55] rfl
    refine va_calli (va_runV (As := [.int (-4)]) (rest := []) ⟨hx, hb, hml, hown, hts⟩ (c_X11_refuse l dC dI cy a g _ (-4) (-1)) (cwV 1 hts g_X11_rest_X11_refuse_89 rfl rfl rfl (by decide +kernel) ⟨Nat.le_of_ble_eq_true rfl, Nat.le_of_ble_eq_true rfl⟩) (pv_ps hC hPc hDc (ci := 11) (q0 := 0) rfl rfl) rfl rfl hl.1 rfl (lv_room (Nat.le_of_ble_eq_true rfl)) dX11_rest_12 ⟨Nat.le_of_ble_eq_true rfl, Nat.le_of_ble_eq_true rfl⟩) hS (fun q _ h => hFc q h) hFc (fun r_ u t_ H1 locs ht hvm hw hB hz1 hk1 hS => ?_)
    obtain ⟨hP, hD⟩ := va_join (wr := []) (w1 := []) hP hD [0, 55] [] rfl rfl (by decide) (by decide) hk1 hFc va_P0 va_D0
    generalize H1 = H at hP hS ⊢
    have hP : va_P (dC, dI) vwCl ([]) H := hP
    have hD : va_D A ([]) := hD
    rcases hw with ⟨c11_, rfl⟩ | ⟨-, c13_, rfl⟩ | ⟨-, -, rfl⟩
    · skip
      exact absurd c11_ (by decide)
    · skip
      exact absurd c13_ (by decide)
    · skip
      exact W.iret (v := (-4)) hx hb hr (fun t ht hW => ⟨⟨(-4), (), rfl, Or.inr (Or.inl (⟨c2_, c3_, rfl⟩)), trivial⟩, hS.F ht⟩) hS.2.2 dX11_rest_15
  · skip
    refine lv_istore_n (lv' := [(2, .int (-1)), (0, .ref (a 0)), (1, .int p0)]) hx hb dX11_rest_5 rfl hl (by decide) rfl (fun ls hl => ?_)
    refine lv_iload_n hx hb dX11_rest_6 rfl (lv_at hl 0 rfl) ?_
    refine lv_if_eq (tgt := 16) hx hb dX11_rest_7 (by decide) (fun c9_ => absurd c9_ (by decide)) (fun _ => ?_)
    refine lv_aload_n hx hb dX11_rest_10 rfl (lv_at hl 1 rfl) ?_
    refine lv_iload_n hx hb dX11_rest_11 rfl (lv_at hl 0 rfl) ?_
    have hPc : va_P (dC, dI) vwCl ([(a 0, .inr (11, [.ref (a 1), .ref (a 60), .ref (a 21), .ref (a 24), .ref (a 28), .ref (a 30), .ref (a 31), .ref (a 32), .ref (a 55), .int 0, .int (-1)])), (a 55, .inl (cy 0, 7, .inl (fun _ => 0)))]) _ := hP.sub [0, 55] rfl
    have hDc := hD.sub (ws' := [(a 0, .inr (11, [.ref (a 1), .ref (a 60), .ref (a 21), .ref (a 24), .ref (a 28), .ref (a 30), .ref (a 31), .ref (a 32), .ref (a 55), .int 0, .int (-1)])), (a 55, .inl (cy 0, 7, .inl (fun _ => 0)))]) [0, 55] (by decide) rfl
    have hFc := va_free (wc := [(a 0, .inr (11, [.ref (a 1), .ref (a 60), .ref (a 21), .ref (a 24), .ref (a 28), .ref (a 30), .ref (a 31), .ref (a 32), .ref (a 55), .int 0, .int (-1)])), (a 55, .inl (cy 0, 7, .inl (fun _ => 0)))]) hD hS hA [0, 55] rfl
    refine va_calli (va_runV (As := [.int (-1)]) (rest := []) ⟨hx, hb, hml, hown, hts⟩ (c_X11_refuse l dC dI cy a g _ (-1) (-1)) (cwV 1 hts g_X11_rest_X11_refuse_89 rfl rfl rfl (by decide +kernel) ⟨Nat.le_of_ble_eq_true rfl, Nat.le_of_ble_eq_true rfl⟩) (pv_ps hC hPc hDc (ci := 11) (q0 := 0) rfl rfl) rfl rfl hl.1 rfl (lv_room (Nat.le_of_ble_eq_true rfl)) dX11_rest_12 ⟨Nat.le_of_ble_eq_true rfl, Nat.le_of_ble_eq_true rfl⟩) hS (fun q _ h => hFc q h) hFc (fun r_ u t_ H1 locs ht hvm hw hB hz1 hk1 hS => ?_)
    obtain ⟨hP, hD⟩ := va_join (wr := []) (w1 := []) hP hD [0, 55] [] rfl rfl (by decide) (by decide) hk1 hFc va_P0 va_D0
    generalize H1 = H at hP hS ⊢
    have hP : va_P (dC, dI) vwCl ([]) H := hP
    have hD : va_D A ([]) := hD
    rcases hw with ⟨c16_, rfl⟩ | ⟨-, c18_, rfl⟩ | ⟨-, -, rfl⟩
    · skip
      exact absurd c16_ (by decide)
    · skip
      exact absurd c18_ (by decide)
    · skip
      exact W.iret (v := (-1)) hx hb hr (fun t ht hW => ⟨⟨(-1), (), rfl, Or.inr (Or.inr (⟨c4_, c5_, rfl⟩)), trivial⟩, hS.F ht⟩) hS.2.2 dX11_rest_15

theorem dX11_clear_0 : decode cX11_clear 0 = .ok (.iload_n 1, 1) := by decide +kernel
theorem dX11_clear_1 : decode cX11_clear 1 = .ok (.invokestatic 178, 3) := by decide +kernel
theorem dX11_clear_4 : decode cX11_clear 4 = .ok (.ifCond .ne 9, 3) := by decide +kernel
theorem dX11_clear_7 : decode cX11_clear 7 = .ok (.aload_n 0, 1) := by decide +kernel
theorem dX11_clear_8 : decode cX11_clear 8 = .ok (.iconst (-1), 1) := by decide +kernel
theorem dX11_clear_9 : decode cX11_clear 9 = .ok (.invokevirtual 89, 3) := by decide +kernel
theorem dX11_clear_12 : decode cX11_clear 12 = .ok (.ireturn, 1) := by decide +kernel
theorem dX11_clear_13 : decode cX11_clear 13 = .ok (.aload_n 0, 1) := by decide +kernel
theorem dX11_clear_14 : decode cX11_clear 14 = .ok (.iload_n 1, 1) := by decide +kernel
theorem dX11_clear_15 : decode cX11_clear 15 = .ok (.invokevirtual 181, 3) := by decide +kernel
theorem dX11_clear_18 : decode cX11_clear 18 = .ok (.ifCond .ne 10, 3) := by decide +kernel
theorem dX11_clear_21 : decode cX11_clear 21 = .ok (.aload_n 0, 1) := by decide +kernel
theorem dX11_clear_22 : decode cX11_clear 22 = .ok (.bipush (-4), 2) := by decide +kernel
theorem dX11_clear_24 : decode cX11_clear 24 = .ok (.invokevirtual 89, 3) := by decide +kernel
theorem dX11_clear_27 : decode cX11_clear 27 = .ok (.ireturn, 1) := by decide +kernel
def v_X11_clear : List Cond := .code yX11_clear cX11_clear 2 (some .int) :: ([.methodLink RX11 178 yX11_isLine, .static yX11_isLine, .initialized RX11, .code yX11_isLine cX11_isLine 1 (some .boolean), .methodLink RX11 89 yX11_refuse, .instanceMethod yX11_refuse, .selects RX11 yX11_refuse yX11_refuse, .code yX11_refuse cX11_refuse 3 (some .int), .fieldLink RX11 293 "RestBoard" "refusedBy" "I", .fieldLink RX11 69 "RestBoard" "refusals" "[I", .methodLink RX11 181 yX11_isRaised, .instanceMethod yX11_isRaised, .selects RX11 yX11_isRaised yX11_isRaised, .code yX11_isRaised cX11_isRaised 2 (some .boolean), .fieldLink RX11 10 "RestBoard" "now" "LRestBoard$State;", .fieldLink RX11 187 "RestBoard$State" "raised" "I"] ++ wsX110 ++ wsX80)
set_option maxRecDepth 100000 in
theorem gg_X11_clear_X11_isLine_178 : GoodIn v_X11_clear v_X11_isLine := goodIn_r _ [4] (by decide +kernel) (by decide +kernel)
set_option maxRecDepth 100000 in
theorem g_X11_clear_X11_isLine_178 : GoodIn v_X11_clear (va_wsS RX11 178 yX11_isLine v_X11_isLine) := goodIn_app (goodIn_r _ [1, 2, 3] (by decide +kernel) (by decide +kernel)) gg_X11_clear_X11_isLine_178
set_option maxRecDepth 100000 in
theorem gg_X11_clear_X11_refuse_89 : GoodIn v_X11_clear v_X11_refuse := goodIn_r _ [8, 9, 10, 17, 18, 19, 20, 21, 22, 23, 24, 25, 26, 27] (by decide +kernel) (by decide +kernel)
set_option maxRecDepth 100000 in
theorem g_X11_clear_X11_refuse_89 : GoodIn v_X11_clear (wsV RX11 89 RX11 yX11_refuse v_X11_refuse) := goodIn_app (goodIn_r _ [5, 6, 7, 3] (by decide +kernel) (by decide +kernel)) gg_X11_clear_X11_refuse_89
set_option maxRecDepth 100000 in
theorem gg_X11_clear_X11_isRaised_181 : GoodIn v_X11_clear v_X11_isRaised := goodIn_r _ [14, 15, 16, 17, 18, 19, 20, 21, 22, 23, 24, 25, 26, 27, 28, 29, 30, 31, 32, 33, 34, 35, 36, 37, 38, 39, 40, 41, 42, 43, 44] (by decide +kernel) (by decide +kernel)
set_option maxRecDepth 100000 in
theorem g_X11_clear_X11_isRaised_181 : GoodIn v_X11_clear (wsV RX11 181 RX11 yX11_isRaised v_X11_isRaised) := goodIn_app (goodIn_r _ [11, 12, 13, 3] (by decide +kernel) (by decide +kernel)) gg_X11_clear_X11_isRaised_181
set_option maxHeartbeats 4000000 in
set_option maxRecDepth 100000 in
theorem c_X11_clear (l : Launch) (dC : Nat → ClassId) (dI : Nat → Nat → Nat) (cy : Nat → ClassId) (a : Nat → Nat) (g : Nat → Nat → Option Nat) (sz : Nat) (p0 : Int32) : Met l yX11_clear v_X11_clear ({ frames := 1, cells := 0, slots := 0, locals := 22 }) (va_Pc [.ref (a 0), .int p0] (ps dC dI cy (fw a cy g) sz)) (va_Qi (fun (r : Int32) (_ : Unit) => ((p0 < 0) ∧ r = (-1)) ∨ ((¬ p0 < 0) ∧ ((8 : Int32) ≤ p0) ∧ r = (-1)) ∨ ((¬ p0 < 0) ∧ (¬ (8 : Int32) ≤ p0) ∧ r = (-4))) (fun _ _ => True) (va_A (fw a cy g) sz)) 0 0 (va_A (fw a cy g) sz) := by
  refine Met.ofW (cc := cX11_clear) (maxL := 2) (ret := (some .int)) (by decide) rfl ?_
  intro p e s m args below meth c s₁ B hml hv
  obtain ⟨rfl, hsz, hP, hC, hD0⟩ := hv
  have hK := hC.1
  have hx := B.exec
  have hb := B.bytes
  have hr := B.returns
  have hts := atoms_spec (ws := v_X11_clear) B.pre
  have hown : s.vm.findClass RX11 = some m.cls := findClass_of_methodNamed B.named
  have hlocks := B.notSynchronized
  subst hsz
  have hD := hD0.self (sz := s.heap.size)
  generalize hAe : va_A (fw a cy g) s.heap.size = A at hD ⊢
  have hA : ∀ q : Nat, s.heap.size ≤ q → A q := fun q h => by rw [← hAe]; exact Or.inr h
  have hS : va_S A s.heap s.heap [] := va_S.rf
  have hl := lv_entry ([.ref (a 0), .int p0]) (n := 2) (Nat.le_of_ble_eq_true rfl)
  rw [lg_entry_eq]
  generalize (lg_sl ([.ref (a 0), .int p0]) ++ List.replicate (2 - (lg_sl ([.ref (a 0), .int p0])).length) Slot.unset).toArray = ls at hl ⊢
  have hl : lv_has ls 2 [(0, .ref (a 0)), (1, .int p0)] := hl
  refine lv_iload_n hx hb dX11_clear_0 rfl (lv_at hl 1 rfl) ?_
  refine tk_pi (va_runS (As := [.int p0]) (rest := []) ⟨hx, hb, hml, hown, hts⟩ (c_X11_isLine l dC dI cy  p0) (va_cwS 1 hts g_X11_clear_X11_isLine_178 rfl rfl rfl (by decide +kernel) ⟨Nat.le_of_ble_eq_true rfl, Nat.le_of_ble_eq_true rfl⟩) (pS_pp hC va_P0) rfl rfl hl.1 rfl (lv_room (Nat.le_of_ble_eq_true rfl)) dX11_clear_1 ⟨Nat.le_of_ble_eq_true rfl, Nat.le_of_ble_eq_true rfl⟩) hP hS (fun r_ H locs hw hP hS => ?_)
  rcases hw with ⟨c1_, rfl⟩ | ⟨c2_, c3_, rfl⟩ | ⟨c4_, c5_, rfl⟩
  · skip
    refine lv_if_ne (tgt := 13) hx hb dX11_clear_4 (by decide) (fun c9_ => absurd (by decide) c9_) (fun _ => ?_)
    refine lv_aload_n hx hb dX11_clear_7 rfl (lv_at hl 0 rfl) ?_
    refine lv_iconst (v := (-1)) hx hb dX11_clear_8 (by decide) ?_
    have hPc : va_P (dC, dI) vwCl ([(a 0, .inr (11, [.ref (a 1), .ref (a 60), .ref (a 21), .ref (a 24), .ref (a 28), .ref (a 30), .ref (a 31), .ref (a 32), .ref (a 55), .int 0, .int (-1)])), (a 55, .inl (cy 0, 7, .inl (fun _ => 0)))]) _ := hP.sub [0, 55] rfl
    have hDc := hD.sub (ws' := [(a 0, .inr (11, [.ref (a 1), .ref (a 60), .ref (a 21), .ref (a 24), .ref (a 28), .ref (a 30), .ref (a 31), .ref (a 32), .ref (a 55), .int 0, .int (-1)])), (a 55, .inl (cy 0, 7, .inl (fun _ => 0)))]) [0, 55] (by decide) rfl
    have hFc := va_free (wc := [(a 0, .inr (11, [.ref (a 1), .ref (a 60), .ref (a 21), .ref (a 24), .ref (a 28), .ref (a 30), .ref (a 31), .ref (a 32), .ref (a 55), .int 0, .int (-1)])), (a 55, .inl (cy 0, 7, .inl (fun _ => 0)))]) hD hS hA [0, 55] rfl
    refine va_calli (va_runV (As := [.int (-1)]) (rest := []) ⟨hx, hb, hml, hown, hts⟩ (c_X11_refuse l dC dI cy a g _ (-1) (-1)) (cwV 1 hts g_X11_clear_X11_refuse_89 rfl rfl rfl (by decide +kernel) ⟨Nat.le_of_ble_eq_true rfl, Nat.le_of_ble_eq_true rfl⟩) (pv_ps hC hPc hDc (ci := 11) (q0 := 0) rfl rfl) rfl rfl hl.1 rfl (lv_room (Nat.le_of_ble_eq_true rfl)) dX11_clear_9 ⟨Nat.le_of_ble_eq_true rfl, Nat.le_of_ble_eq_true rfl⟩) hS (fun q _ h => hFc q h) hFc (fun r_ u t_ H1 locs ht hvm hw hB hz1 hk1 hS => ?_)
    obtain ⟨hP, hD⟩ := va_join (wr := []) (w1 := []) hP hD [0, 55] [] rfl rfl (by decide) (by decide) hk1 hFc va_P0 va_D0
    generalize H1 = H at hP hS ⊢
    have hP : va_P (dC, dI) vwCl ([]) H := hP
    have hD : va_D A ([]) := hD
    rcases hw with ⟨c6_, rfl⟩ | ⟨-, c8_, rfl⟩ | ⟨-, -, rfl⟩
    · skip
      exact absurd c6_ (by decide)
    · skip
      exact absurd c8_ (by decide)
    · skip
      exact W.iret (v := (-1)) hx hb hr (fun t ht hW => ⟨⟨(-1), (), rfl, Or.inl (⟨c1_, rfl⟩), trivial⟩, hS.F ht⟩) hS.2.2 dX11_clear_12
  · skip
    refine lv_if_ne (tgt := 13) hx hb dX11_clear_4 (by decide) (fun c9_ => absurd (by decide) c9_) (fun _ => ?_)
    refine lv_aload_n hx hb dX11_clear_7 rfl (lv_at hl 0 rfl) ?_
    refine lv_iconst (v := (-1)) hx hb dX11_clear_8 (by decide) ?_
    have hPc : va_P (dC, dI) vwCl ([(a 0, .inr (11, [.ref (a 1), .ref (a 60), .ref (a 21), .ref (a 24), .ref (a 28), .ref (a 30), .ref (a 31), .ref (a 32), .ref (a 55), .int 0, .int (-1)])), (a 55, .inl (cy 0, 7, .inl (fun _ => 0)))]) _ := hP.sub [0, 55] rfl
    have hDc := hD.sub (ws' := [(a 0, .inr (11, [.ref (a 1), .ref (a 60), .ref (a 21), .ref (a 24), .ref (a 28), .ref (a 30), .ref (a 31), .ref (a 32), .ref (a 55), .int 0, .int (-1)])), (a 55, .inl (cy 0, 7, .inl (fun _ => 0)))]) [0, 55] (by decide) rfl
    have hFc := va_free (wc := [(a 0, .inr (11, [.ref (a 1), .ref (a 60), .ref (a 21), .ref (a 24), .ref (a 28), .ref (a 30), .ref (a 31), .ref (a 32), .ref (a 55), .int 0, .int (-1)])), (a 55, .inl (cy 0, 7, .inl (fun _ => 0)))]) hD hS hA [0, 55] rfl
    refine va_calli (va_runV (As := [.int (-1)]) (rest := []) ⟨hx, hb, hml, hown, hts⟩ (c_X11_refuse l dC dI cy a g _ (-1) (-1)) (cwV 1 hts g_X11_clear_X11_refuse_89 rfl rfl rfl (by decide +kernel) ⟨Nat.le_of_ble_eq_true rfl, Nat.le_of_ble_eq_true rfl⟩) (pv_ps hC hPc hDc (ci := 11) (q0 := 0) rfl rfl) rfl rfl hl.1 rfl (lv_room (Nat.le_of_ble_eq_true rfl)) dX11_clear_9 ⟨Nat.le_of_ble_eq_true rfl, Nat.le_of_ble_eq_true rfl⟩) hS (fun q _ h => hFc q h) hFc (fun r_ u t_ H1 locs ht hvm hw hB hz1 hk1 hS => ?_)
    obtain ⟨hP, hD⟩ := va_join (wr := []) (w1 := []) hP hD [0, 55] [] rfl rfl (by decide) (by decide) hk1 hFc va_P0 va_D0
    generalize H1 = H at hP hS ⊢
    have hP : va_P (dC, dI) vwCl ([]) H := hP
    have hD : va_D A ([]) := hD
    rcases hw with ⟨c11_, rfl⟩ | ⟨-, c13_, rfl⟩ | ⟨-, -, rfl⟩
    · skip
      exact absurd c11_ (by decide)
    · skip
      exact absurd c13_ (by decide)
    · skip
      exact W.iret (v := (-1)) hx hb hr (fun t ht hW => ⟨⟨(-1), (), rfl, Or.inr (Or.inl (⟨c2_, c3_, rfl⟩)), trivial⟩, hS.F ht⟩) hS.2.2 dX11_clear_12
  · skip
    refine lv_if_ne (tgt := 13) hx hb dX11_clear_4 (by decide) (fun _ => ?_) (fun c9_ => absurd c9_ (by decide))
    refine lv_aload_n hx hb dX11_clear_13 rfl (lv_at hl 0 rfl) ?_
    refine lv_iload_n hx hb dX11_clear_14 rfl (lv_at hl 1 rfl) ?_
    refine tk_pi (va_runV (As := [.int p0]) (rest := []) ⟨hx, hb, hml, hown, hts⟩ (c_X11_isRaised l dC dI cy a g p0) (cwV 1 hts g_X11_clear_X11_isRaised_181 rfl rfl rfl (by decide +kernel) ⟨Nat.le_of_ble_eq_true rfl, Nat.le_of_ble_eq_true rfl⟩) (pv_pp hC hP (ci := 11) (q0 := 0) rfl rfl) rfl rfl hl.1 rfl (lv_room (Nat.le_of_ble_eq_true rfl)) dX11_clear_15 ⟨Nat.le_of_ble_eq_true rfl, Nat.le_of_ble_eq_true rfl⟩) hP hS (fun r_ H locs hw hP hS => ?_)
    subst hw
    refine lv_if_ne (tgt := 28) hx hb dX11_clear_18 (by decide) (fun c9_ => absurd (by decide) c9_) (fun _ => ?_)
    refine lv_aload_n hx hb dX11_clear_21 rfl (lv_at hl 0 rfl) ?_
    refine lv_bipush (v := (-4)) hx hb dX11_clear_22 (by decide) ?_
    have hPc : va_P (dC, dI) vwCl ([(a 0, .inr (11, [.ref (a 1), .ref (a 60), .ref (a 21), .ref (a 24), .ref (a 28), .ref (a 30), .ref (a 31), .ref (a 32), .ref (a 55), .int 0, .int (-1)])), (a 55, .inl (cy 0, 7, .inl (fun _ => 0)))]) _ := hP.sub [0, 55] rfl
    have hDc := hD.sub (ws' := [(a 0, .inr (11, [.ref (a 1), .ref (a 60), .ref (a 21), .ref (a 24), .ref (a 28), .ref (a 30), .ref (a 31), .ref (a 32), .ref (a 55), .int 0, .int (-1)])), (a 55, .inl (cy 0, 7, .inl (fun _ => 0)))]) [0, 55] (by decide) rfl
    have hFc := va_free (wc := [(a 0, .inr (11, [.ref (a 1), .ref (a 60), .ref (a 21), .ref (a 24), .ref (a 28), .ref (a 30), .ref (a 31), .ref (a 32), .ref (a 55), .int 0, .int (-1)])), (a 55, .inl (cy 0, 7, .inl (fun _ => 0)))]) hD hS hA [0, 55] rfl
    refine va_calli (va_runV (As := [.int (-4)]) (rest := []) ⟨hx, hb, hml, hown, hts⟩ (c_X11_refuse l dC dI cy a g _ (-4) (-1)) (cwV 1 hts g_X11_clear_X11_refuse_89 rfl rfl rfl (by decide +kernel) ⟨Nat.le_of_ble_eq_true rfl, Nat.le_of_ble_eq_true rfl⟩) (pv_ps hC hPc hDc (ci := 11) (q0 := 0) rfl rfl) rfl rfl hl.1 rfl (lv_room (Nat.le_of_ble_eq_true rfl)) dX11_clear_24 ⟨Nat.le_of_ble_eq_true rfl, Nat.le_of_ble_eq_true rfl⟩) hS (fun q _ h => hFc q h) hFc (fun r_ u t_ H1 locs ht hvm hw hB hz1 hk1 hS => ?_)
    obtain ⟨hP, hD⟩ := va_join (wr := []) (w1 := []) hP hD [0, 55] [] rfl rfl (by decide) (by decide) hk1 hFc va_P0 va_D0
    generalize H1 = H at hP hS ⊢
    have hP : va_P (dC, dI) vwCl ([]) H := hP
    have hD : va_D A ([]) := hD
    rcases hw with ⟨c16_, rfl⟩ | ⟨-, c18_, rfl⟩ | ⟨-, -, rfl⟩
    · skip
      exact absurd c16_ (by decide)
    · skip
      exact absurd c18_ (by decide)
    · skip
      exact W.iret (v := (-4)) hx hb hr (fun t ht hW => ⟨⟨(-4), (), rfl, Or.inr (Or.inr (⟨c4_, c5_, rfl⟩)), trivial⟩, hS.F ht⟩) hS.2.2 dX11_clear_27

theorem dX11_undo_0 : decode cX11_undo 0 = .ok (.aload_n 0, 1) := by decide +kernel
theorem dX11_undo_1 : decode cX11_undo 1 = .ok (.getfield 65, 3) := by decide +kernel
theorem dX11_undo_4 : decode cX11_undo 4 = .ok (.invokevirtual 190, 3) := by decide +kernel
theorem dX11_undo_7 : decode cX11_undo 7 = .ok (.ifCond .ne 10, 3) := by decide +kernel
theorem dX11_undo_10 : decode cX11_undo 10 = .ok (.aload_n 0, 1) := by decide +kernel
theorem dX11_undo_11 : decode cX11_undo 11 = .ok (.bipush (-4), 2) := by decide +kernel
theorem dX11_undo_13 : decode cX11_undo 13 = .ok (.invokevirtual 89, 3) := by decide +kernel
theorem dX11_undo_16 : decode cX11_undo 16 = .ok (.ireturn, 1) := by decide +kernel
def v_X11_undo : List Cond := .code yX11_undo cX11_undo 1 (some .int) :: ([.fieldLink RX11 65 "RestBoard" "history" "LRestBoard$History;", .methodLink RX11 190 yX1_kept, .instanceMethod yX1_kept, .selects RX1 yX1_kept yX1_kept, .initialized RX1, .code yX1_kept cX1_kept 1 (some .int), .fieldLink RX1 24 "RestBoard$History" "kept" "I", .methodLink RX11 89 yX11_refuse, .instanceMethod yX11_refuse, .selects RX11 yX11_refuse yX11_refuse, .initialized RX11, .code yX11_refuse cX11_refuse 3 (some .int), .fieldLink RX11 293 "RestBoard" "refusedBy" "I", .fieldLink RX11 69 "RestBoard" "refusals" "[I"] ++ wsX110 ++ wsX10)
theorem m_X11_undo_0 : (.fieldLink RX11 65 "RestBoard" "history" "LRestBoard$History;" : Cond) ∈ v_X11_undo := List.mem_of_getElem? (i := 1) (by decide +kernel)
theorem i_X11_undo_X11 : ∀ w ∈ u_ws RX11 TX11 11, w ∈ v_X11_undo := fun w h => List.mem_cons_of_mem _ (List.mem_append_left _ (List.mem_append_right _ h))
set_option maxRecDepth 100000 in
theorem gg_X11_undo_X1_kept_190 : GoodIn v_X11_undo v_X1_kept := goodIn_r _ [6, 7, 26, 27, 28, 29, 30] (by decide +kernel) (by decide +kernel)
set_option maxRecDepth 100000 in
theorem g_X11_undo_X1_kept_190 : GoodIn v_X11_undo (wsV RX11 190 RX1 yX1_kept v_X1_kept) := goodIn_app (goodIn_r _ [2, 3, 4, 5] (by decide +kernel) (by decide +kernel)) gg_X11_undo_X1_kept_190
set_option maxRecDepth 100000 in
theorem gg_X11_undo_X11_refuse_89 : GoodIn v_X11_undo v_X11_refuse := goodIn_r _ [12, 13, 14, 15, 16, 17, 18, 19, 20, 21, 22, 23, 24, 25] (by decide +kernel) (by decide +kernel)
set_option maxRecDepth 100000 in
theorem g_X11_undo_X11_refuse_89 : GoodIn v_X11_undo (wsV RX11 89 RX11 yX11_refuse v_X11_refuse) := goodIn_app (goodIn_r _ [8, 9, 10, 11] (by decide +kernel) (by decide +kernel)) gg_X11_undo_X11_refuse_89
set_option maxHeartbeats 4000000 in
set_option maxRecDepth 100000 in
theorem c_X11_undo (l : Launch) (dC : Nat → ClassId) (dI : Nat → Nat → Nat) (cy : Nat → ClassId) (a : Nat → Nat) (g : Nat → Nat → Option Nat) (sz : Nat) : Met l yX11_undo v_X11_undo ({ frames := 1, cells := 0, slots := 0, locals := 22 }) (va_Pc [.ref (a 0)] (ps dC dI cy (fw a cy g) sz)) (va_Qi (fun (r : Int32) (_ : Unit) => r = (-4)) (fun _ _ => True) (va_A (fw a cy g) sz)) 0 0 (va_A (fw a cy g) sz) := by
  refine Met.ofW (cc := cX11_undo) (maxL := 1) (ret := (some .int)) (by decide) rfl ?_
  intro p e s m args below meth c s₁ B hml hv
  obtain ⟨rfl, hsz, hP, hC, hD0⟩ := hv
  have hK := hC.1
  have hx := B.exec
  have hb := B.bytes
  have hr := B.returns
  have hts := atoms_spec (ws := v_X11_undo) B.pre
  have hown : s.vm.findClass RX11 = some m.cls := findClass_of_methodNamed B.named
  have hlocks := B.notSynchronized
  subst hsz
  have hD := hD0.self (sz := s.heap.size)
  generalize hAe : va_A (fw a cy g) s.heap.size = A at hD ⊢
  have hA : ∀ q : Nat, s.heap.size ≤ q → A q := fun q h => by rw [← hAe]; exact Or.inr h
  have hS : va_S A s.heap s.heap [] := va_S.rf
  have hl := lv_entry ([.ref (a 0)]) (n := 1) (Nat.le_of_ble_eq_true rfl)
  rw [lg_entry_eq]
  generalize (lg_sl ([.ref (a 0)]) ++ List.replicate (1 - (lg_sl ([.ref (a 0)])).length) Slot.unset).toArray = ls at hl ⊢
  have hl : lv_has ls 1 [(0, .ref (a 0))] := hl
  refine lv_aload_n hx hb dX11_undo_0 rfl (lv_at hl 0 rfl) ?_
  refine va_get (D := (dC, dI)) (ci := 11) (v := .ref (a 32)) (C := RX11) (T := TX11) (N := 11) hx hb hts i_X11_undo_X11 hown hK hP 0 rfl rfl 7 (by decide) (hts _ m_X11_undo_0) (fun _ h9 => h9) rfl dX11_undo_1 ?_
  refine tk_pi (va_runV (As := []) (rest := []) ⟨hx, hb, hml, hown, hts⟩ (c_X1_kept l dC dI cy a g) (cwV 0 hts g_X11_undo_X1_kept_190 rfl rfl rfl (by decide +kernel) ⟨Nat.le_of_ble_eq_true rfl, Nat.le_of_ble_eq_true rfl⟩) (pv_pp hC hP (ci := 1) (q0 := 32) rfl rfl) rfl rfl hl.1 rfl (lv_room (Nat.le_of_ble_eq_true rfl)) dX11_undo_4 ⟨Nat.le_of_ble_eq_true rfl, Nat.le_of_ble_eq_true rfl⟩) hP hS (fun r_ H locs hw hP hS => ?_)
  subst hw
  refine lv_if_ne (tgt := 17) hx hb dX11_undo_7 (by decide) (fun c9_ => absurd (by decide) c9_) (fun _ => ?_)
  refine lv_aload_n hx hb dX11_undo_10 rfl (lv_at hl 0 rfl) ?_
  refine lv_bipush (v := (-4)) hx hb dX11_undo_11 (by decide) ?_
  have hPc : va_P (dC, dI) vwCl ([(a 0, .inr (11, [.ref (a 1), .ref (a 60), .ref (a 21), .ref (a 24), .ref (a 28), .ref (a 30), .ref (a 31), .ref (a 32), .ref (a 55), .int 0, .int (-1)])), (a 55, .inl (cy 0, 7, .inl (fun _ => 0)))]) _ := hP.sub [0, 55] rfl
  have hDc := hD.sub (ws' := [(a 0, .inr (11, [.ref (a 1), .ref (a 60), .ref (a 21), .ref (a 24), .ref (a 28), .ref (a 30), .ref (a 31), .ref (a 32), .ref (a 55), .int 0, .int (-1)])), (a 55, .inl (cy 0, 7, .inl (fun _ => 0)))]) [0, 55] (by decide) rfl
  have hFc := va_free (wc := [(a 0, .inr (11, [.ref (a 1), .ref (a 60), .ref (a 21), .ref (a 24), .ref (a 28), .ref (a 30), .ref (a 31), .ref (a 32), .ref (a 55), .int 0, .int (-1)])), (a 55, .inl (cy 0, 7, .inl (fun _ => 0)))]) hD hS hA [0, 55] rfl
  refine va_calli (va_runV (As := [.int (-4)]) (rest := []) ⟨hx, hb, hml, hown, hts⟩ (c_X11_refuse l dC dI cy a g _ (-4) (-1)) (cwV 1 hts g_X11_undo_X11_refuse_89 rfl rfl rfl (by decide +kernel) ⟨Nat.le_of_ble_eq_true rfl, Nat.le_of_ble_eq_true rfl⟩) (pv_ps hC hPc hDc (ci := 11) (q0 := 0) rfl rfl) rfl rfl hl.1 rfl (lv_room (Nat.le_of_ble_eq_true rfl)) dX11_undo_13 ⟨Nat.le_of_ble_eq_true rfl, Nat.le_of_ble_eq_true rfl⟩) hS (fun q _ h => hFc q h) hFc (fun r_ u t_ H1 locs ht hvm hw hB hz1 hk1 hS => ?_)
  obtain ⟨hP, hD⟩ := va_join (wr := []) (w1 := []) hP hD [0, 55] [] rfl rfl (by decide) (by decide) hk1 hFc va_P0 va_D0
  generalize H1 = H at hP hS ⊢
  have hP : va_P (dC, dI) vwCl ([]) H := hP
  have hD : va_D A ([]) := hD
  rcases hw with ⟨c1_, rfl⟩ | ⟨-, c3_, rfl⟩ | ⟨-, -, rfl⟩
  · skip
    exact absurd c1_ (by decide)
  · skip
    exact absurd c3_ (by decide)
  · skip
    exact W.iret (v := (-4)) hx hb hr (fun t ht hW => ⟨⟨(-4), (), rfl, rfl, trivial⟩, hS.F ht⟩) hS.2.2 dX11_undo_16

theorem dX9_cut_0 : decode cX9_cut 0 = .ok (.iload_n 1, 1) := by decide +kernel
theorem dX9_cut_1 : decode cX9_cut 1 = .ok (.ifCond .lt 11, 3) := by decide +kernel
theorem dX9_cut_4 : decode cX9_cut 4 = .ok (.iload_n 1, 1) := by decide +kernel
theorem dX9_cut_5 : decode cX9_cut 5 = .ok (.aload_n 0, 1) := by decide +kernel
theorem dX9_cut_6 : decode cX9_cut 6 = .ok (.getfield 35, 3) := by decide +kernel
theorem dX9_cut_9 : decode cX9_cut 9 = .ok (.if_icmp .le 5, 3) := by decide +kernel
theorem dX9_cut_12 : decode cX9_cut 12 = .ok (.iconst (-1), 1) := by decide +kernel
theorem dX9_cut_13 : decode cX9_cut 13 = .ok (.ireturn, 1) := by decide +kernel
theorem dX9_cut_14 : decode cX9_cut 14 = .ok (.aload_n 0, 1) := by decide +kernel
theorem dX9_cut_15 : decode cX9_cut 15 = .ok (.iload_n 1, 1) := by decide +kernel
theorem dX9_cut_16 : decode cX9_cut 16 = .ok (.putfield 35, 3) := by decide +kernel
theorem dX9_cut_19 : decode cX9_cut 19 = .ok (.iload_n 1, 1) := by decide +kernel
theorem dX9_cut_20 : decode cX9_cut 20 = .ok (.ireturn, 1) := by decide +kernel
def v_X9_cut : List Cond := .code yX9_cut cX9_cut 2 (some .int) :: ([.fieldLink RX9 35 "RestBoard$Table" "length" "I"] ++ wsX90)
theorem m_X9_cut_0 : (.fieldLink RX9 35 "RestBoard$Table" "length" "I" : Cond) ∈ v_X9_cut := List.mem_of_getElem? (i := 1) (by decide +kernel)
theorem i_X9_cut_X9 : ∀ w ∈ u_ws RX9 TX9 15, w ∈ v_X9_cut := fun w h => List.mem_cons_of_mem _ (List.mem_append_right _ h)
set_option maxHeartbeats 4000000 in
set_option maxRecDepth 100000 in
theorem c_X9_cut (l : Launch) (dC : Nat → ClassId) (dI : Nat → Nat → Nat) (cy : Nat → ClassId) (a : Nat → Nat) (g : Nat → Nat → Option Nat) (sz : Nat) (p0 : Int32) : Met l yX9_cut v_X9_cut ({ frames := 0, cells := 0, slots := 0, locals := 0 }) (va_Pc [.ref (a 24), .int p0] (ps dC dI cy ([(a 24, .inr (9, [.ref (a 21), .ref (a 25), .int 0, .int 0, .int 0, .int (-1), .int 0, .ref (a 26), .ref (a 27), .int 0, .ref (a 63), .ref (a 64), .int 0, .int 0, .int 0]))]) sz)) (va_Qi (fun (r : Int32) (_ : Unit) => ((p0 < 0) ∧ r = (-1)) ∨ ((p0 = 0) ∧ r = 0) ∨ ((¬ p0 < 0) ∧ (¬ p0 ≤ 0) ∧ r = (-1))) (fun _ _ => True) (va_A ([(a 24, .inr (9, [.ref (a 21), .ref (a 25), .int 0, .int 0, .int 0, .int (-1), .int 0, .ref (a 26), .ref (a 27), .int 0, .ref (a 63), .ref (a 64), .int 0, .int 0, .int 0]))]) sz)) 0 0 (va_A ([(a 24, .inr (9, [.ref (a 21), .ref (a 25), .int 0, .int 0, .int 0, .int (-1), .int 0, .ref (a 26), .ref (a 27), .int 0, .ref (a 63), .ref (a 64), .int 0, .int 0, .int 0]))]) sz) := by
  refine Met.ofW (cc := cX9_cut) (maxL := 2) (ret := (some .int)) (by decide) rfl ?_
  intro p e s m args below meth c s₁ B hml hv
  obtain ⟨rfl, hsz, hP, hC, hD0⟩ := hv
  have hK := hC.1
  have hx := B.exec
  have hb := B.bytes
  have hr := B.returns
  have hts := atoms_spec (ws := v_X9_cut) B.pre
  have hown : s.vm.findClass RX9 = some m.cls := findClass_of_methodNamed B.named
  have hlocks := B.notSynchronized
  subst hsz
  have hD := hD0.self (sz := s.heap.size)
  generalize hAe : va_A ([(a 24, .inr (9, [.ref (a 21), .ref (a 25), .int 0, .int 0, .int 0, .int (-1), .int 0, .ref (a 26), .ref (a 27), .int 0, .ref (a 63), .ref (a 64), .int 0, .int 0, .int 0]))]) s.heap.size = A at hD ⊢
  have hA : ∀ q : Nat, s.heap.size ≤ q → A q := fun q h => by rw [← hAe]; exact Or.inr h
  have hS : va_S A s.heap s.heap [] := va_S.rf
  have hl := lv_entry ([.ref (a 24), .int p0]) (n := 2) (Nat.le_of_ble_eq_true rfl)
  rw [lg_entry_eq]
  generalize (lg_sl ([.ref (a 24), .int p0]) ++ List.replicate (2 - (lg_sl ([.ref (a 24), .int p0])).length) Slot.unset).toArray = ls at hl ⊢
  have hl : lv_has ls 2 [(0, .ref (a 24)), (1, .int p0)] := hl
  refine lv_iload_n hx hb dX9_cut_0 rfl (lv_at hl 1 rfl) ?_
  refine lv_if_lt (tgt := 12) hx hb dX9_cut_1 (by decide) (fun c1_ => ?_) (fun c1_ => ?_)
  · skip
    refine lv_iconst (v := (-1)) hx hb dX9_cut_12 (by decide) ?_
    exact W.iret (v := (-1)) hx hb hr (fun t ht hW => ⟨⟨(-1), (), rfl, Or.inl (⟨c1_, rfl⟩), trivial⟩, hS.F ht⟩) hS.2.2 dX9_cut_13
  · skip
    refine lv_iload_n hx hb dX9_cut_4 rfl (lv_at hl 1 rfl) ?_
    refine lv_aload_n hx hb dX9_cut_5 rfl (lv_at hl 0 rfl) ?_
    refine va_get (D := (dC, dI)) (ci := 9) (v := .int 0) (C := RX9) (T := TX9) (N := 15) hx hb hts i_X9_cut_X9 hown hK hP 0 rfl rfl 2 (by decide) (hts _ m_X9_cut_0) (fun _ h9 => h9) rfl dX9_cut_6 ?_
    refine lv_icmp_le (tgt := 14) hx hb dX9_cut_9 (by decide) (fun c2_ => ?_) (fun c2_ => ?_)
    · skip
      have e3_ : p0 = 0 := by
        have z0_ := tz_nlt_r c1_ (show (0 : Int32).toInt = 0 by decide)
        have z1_ := tz_le_r c2_ (show (0 : Int32).toInt = 0 by decide)
        exact tz_pin (show (0 : Int32).toInt = 0 by decide) (by omega)
      subst e3_
      refine lv_aload_n hx hb dX9_cut_14 rfl (lv_at hl 0 rfl) ?_
      refine lv_iload_n hx hb dX9_cut_15 rfl (lv_at hl 1 rfl) ?_
      refine va_put (D := (dC, dI)) (ci := 9) (v := .int 0) (ty := .int) (C := RX9) (T := TX9) (N := 15) hx hb hts i_X9_cut_X9 tyX9 tyX9_ok nmX9 hown hK hP hD hS 0 rfl rfl 2 (by decide) (hts _ m_X9_cut_0) (fun _ h9 => h9) rfl (by decide +kernel) rfl rfl (Nat.le_of_ble_eq_true rfl) dX9_cut_16 (fun H locs hP hD hS => ?_)
      have hP : va_P (dC, dI) vwCl ([(a 24, .inr (9, [.ref (a 21), .ref (a 25), .int 0, .int 0, .int 0, .int (-1), .int 0, .ref (a 26), .ref (a 27), .int 0, .ref (a 63), .ref (a 64), .int 0, .int 0, .int 0]))]) H := hP
      have hD : va_D A ([(a 24, .inr (9, [.ref (a 21), .ref (a 25), .int 0, .int 0, .int 0, .int (-1), .int 0, .ref (a 26), .ref (a 27), .int 0, .ref (a 63), .ref (a 64), .int 0, .int 0, .int 0]))]) := hD
      refine lv_iload_n hx hb dX9_cut_19 rfl (lv_at hl 1 rfl) ?_
      exact W.iret (v := 0) hx hb hr (fun t ht hW => ⟨⟨0, (), rfl, Or.inr (Or.inl (⟨rfl, rfl⟩)), trivial⟩, hS.F ht⟩) hS.2.2 dX9_cut_20
    · skip
      refine lv_iconst (v := (-1)) hx hb dX9_cut_12 (by decide) ?_
      exact W.iret (v := (-1)) hx hb hr (fun t ht hW => ⟨⟨(-1), (), rfl, Or.inr (Or.inr (⟨c1_, c2_, rfl⟩)), trivial⟩, hS.F ht⟩) hS.2.2 dX9_cut_13

theorem dX11_end_0 : decode cX11_end 0 = .ok (.aload_n 0, 1) := by decide +kernel
theorem dX11_end_1 : decode cX11_end 1 = .ok (.getfield 33, 3) := by decide +kernel
theorem dX11_end_4 : decode cX11_end 4 = .ok (.iload_n 1, 1) := by decide +kernel
theorem dX11_end_5 : decode cX11_end 5 = .ok (.invokevirtual 81, 3) := by decide +kernel
theorem dX11_end_8 : decode cX11_end 8 = .ok (.ireturn, 1) := by decide +kernel
def v_X11_end : List Cond := .code yX11_end cX11_end 2 (some .int) :: ([.fieldLink RX11 33 "RestBoard" "table" "LRestBoard$Table;", .methodLink RX11 81 yX9_cut, .instanceMethod yX9_cut, .selects RX9 yX9_cut yX9_cut, .initialized RX9, .code yX9_cut cX9_cut 2 (some .int), .fieldLink RX9 35 "RestBoard$Table" "length" "I"] ++ wsX110 ++ wsX90)
theorem m_X11_end_0 : (.fieldLink RX11 33 "RestBoard" "table" "LRestBoard$Table;" : Cond) ∈ v_X11_end := List.mem_of_getElem? (i := 1) (by decide +kernel)
theorem i_X11_end_X11 : ∀ w ∈ u_ws RX11 TX11 11, w ∈ v_X11_end := fun w h => List.mem_cons_of_mem _ (List.mem_append_left _ (List.mem_append_right _ h))
set_option maxRecDepth 100000 in
theorem gg_X11_end_X9_cut_81 : GoodIn v_X11_end v_X9_cut := goodIn_r _ [6, 7, 19, 20, 21, 22, 23, 24, 25, 26, 27, 28, 29, 30, 31, 32, 33] (by decide +kernel) (by decide +kernel)
set_option maxRecDepth 100000 in
theorem g_X11_end_X9_cut_81 : GoodIn v_X11_end (wsV RX11 81 RX9 yX9_cut v_X9_cut) := goodIn_app (goodIn_r _ [2, 3, 4, 5] (by decide +kernel) (by decide +kernel)) gg_X11_end_X9_cut_81
set_option maxHeartbeats 4000000 in
set_option maxRecDepth 100000 in
theorem c_X11_end (l : Launch) (dC : Nat → ClassId) (dI : Nat → Nat → Nat) (cy : Nat → ClassId) (a : Nat → Nat) (g : Nat → Nat → Option Nat) (sz : Nat) (p0 : Int32) : Met l yX11_end v_X11_end ({ frames := 1, cells := 0, slots := 0, locals := 21 }) (va_Pc [.ref (a 0), .int p0] (ps dC dI cy (fw a cy g) sz)) (va_Qi (fun (r : Int32) (_ : Unit) => ((p0 < 0) ∧ r = (-1)) ∨ ((p0 = 0) ∧ r = 0) ∨ ((¬ p0 < 0) ∧ (¬ p0 ≤ 0) ∧ r = (-1))) (fun _ _ => True) (va_A (fw a cy g) sz)) 0 0 (va_A (fw a cy g) sz) := by
  refine Met.ofW (cc := cX11_end) (maxL := 2) (ret := (some .int)) (by decide) rfl ?_
  intro p e s m args below meth c s₁ B hml hv
  obtain ⟨rfl, hsz, hP, hC, hD0⟩ := hv
  have hK := hC.1
  have hx := B.exec
  have hb := B.bytes
  have hr := B.returns
  have hts := atoms_spec (ws := v_X11_end) B.pre
  have hown : s.vm.findClass RX11 = some m.cls := findClass_of_methodNamed B.named
  have hlocks := B.notSynchronized
  subst hsz
  have hD := hD0.self (sz := s.heap.size)
  generalize hAe : va_A (fw a cy g) s.heap.size = A at hD ⊢
  have hA : ∀ q : Nat, s.heap.size ≤ q → A q := fun q h => by rw [← hAe]; exact Or.inr h
  have hS : va_S A s.heap s.heap [] := va_S.rf
  have hl := lv_entry ([.ref (a 0), .int p0]) (n := 2) (Nat.le_of_ble_eq_true rfl)
  rw [lg_entry_eq]
  generalize (lg_sl ([.ref (a 0), .int p0]) ++ List.replicate (2 - (lg_sl ([.ref (a 0), .int p0])).length) Slot.unset).toArray = ls at hl ⊢
  have hl : lv_has ls 2 [(0, .ref (a 0)), (1, .int p0)] := hl
  refine lv_aload_n hx hb dX11_end_0 rfl (lv_at hl 0 rfl) ?_
  refine va_get (D := (dC, dI)) (ci := 11) (v := .ref (a 24)) (C := RX11) (T := TX11) (N := 11) hx hb hts i_X11_end_X11 hown hK hP 0 rfl rfl 3 (by decide) (hts _ m_X11_end_0) (fun _ h9 => h9) rfl dX11_end_1 ?_
  refine lv_iload_n hx hb dX11_end_4 rfl (lv_at hl 1 rfl) ?_
  have hPc : va_P (dC, dI) vwCl ([(a 24, .inr (9, [.ref (a 21), .ref (a 25), .int 0, .int 0, .int 0, .int (-1), .int 0, .ref (a 26), .ref (a 27), .int 0, .ref (a 63), .ref (a 64), .int 0, .int 0, .int 0]))]) _ := hP.sub [24] rfl
  have hDc := hD.sub (ws' := [(a 24, .inr (9, [.ref (a 21), .ref (a 25), .int 0, .int 0, .int 0, .int (-1), .int 0, .ref (a 26), .ref (a 27), .int 0, .ref (a 63), .ref (a 64), .int 0, .int 0, .int 0]))]) [24] (by decide) rfl
  have hFc := va_free (wc := [(a 24, .inr (9, [.ref (a 21), .ref (a 25), .int 0, .int 0, .int 0, .int (-1), .int 0, .ref (a 26), .ref (a 27), .int 0, .ref (a 63), .ref (a 64), .int 0, .int 0, .int 0]))]) hD hS hA [24] rfl
  refine va_calli (va_runV (As := [.int p0]) (rest := []) ⟨hx, hb, hml, hown, hts⟩ (c_X9_cut l dC dI cy a g _ p0) (cwV 1 hts g_X11_end_X9_cut_81 rfl rfl rfl (by decide +kernel) ⟨Nat.le_of_ble_eq_true rfl, Nat.le_of_ble_eq_true rfl⟩) (pv_ps hC hPc hDc (ci := 9) (q0 := 0) rfl rfl) rfl rfl hl.1 rfl (lv_room (Nat.le_of_ble_eq_true rfl)) dX11_end_5 ⟨Nat.le_of_ble_eq_true rfl, Nat.le_of_ble_eq_true rfl⟩) hS (fun q _ h => hFc q h) hFc (fun r_ u t_ H1 locs ht hvm hw hB hz1 hk1 hS => ?_)
  obtain ⟨hP, hD⟩ := va_join (wr := []) (w1 := []) hP hD [24] [] rfl rfl (by decide) (by decide) hk1 hFc va_P0 va_D0
  generalize H1 = H at hP hS ⊢
  have hP : va_P (dC, dI) vwCl ([]) H := hP
  have hD : va_D A ([]) := hD
  rcases hw with ⟨c1_, rfl⟩ | ⟨c2_, rfl⟩ | ⟨c3_, c4_, rfl⟩
  · skip
    exact W.iret (v := (-1)) hx hb hr (fun t ht hW => ⟨⟨(-1), (), rfl, Or.inl (⟨c1_, rfl⟩), trivial⟩, hS.F ht⟩) hS.2.2 dX11_end_8
  · skip
    subst c2_
    exact W.iret (v := 0) hx hb hr (fun t ht hW => ⟨⟨0, (), rfl, Or.inr (Or.inl (⟨rfl, rfl⟩)), trivial⟩, hS.F ht⟩) hS.2.2 dX11_end_8
  · skip
    exact W.iret (v := (-1)) hx hb hr (fun t ht hW => ⟨⟨(-1), (), rfl, Or.inr (Or.inr (⟨c3_, c4_, rfl⟩)), trivial⟩, hS.F ht⟩) hS.2.2 dX11_end_8

theorem dX9_appendFour_0 : decode cX9_appendFour 0 = .ok (.bipush 24, 2) := by decide +kernel
theorem dX9_appendFour_2 : decode cX9_appendFour 2 = .ok (.istore_n 2, 1) := by decide +kernel
theorem dX9_appendFour_3 : decode cX9_appendFour 3 = .ok (.iload_n 2, 1) := by decide +kernel
theorem dX9_appendFour_4 : decode cX9_appendFour 4 = .ok (.ifCond .lt 35, 3) := by decide +kernel
theorem dX9_appendFour_7 : decode cX9_appendFour 7 = .ok (.aload_n 0, 1) := by decide +kernel
theorem dX9_appendFour_8 : decode cX9_appendFour 8 = .ok (.getfield 9, 3) := by decide +kernel
theorem dX9_appendFour_11 : decode cX9_appendFour 11 = .ok (.aload_n 0, 1) := by decide +kernel
theorem dX9_appendFour_12 : decode cX9_appendFour 12 = .ok (.getfield 35, 3) := by decide +kernel
theorem dX9_appendFour_15 : decode cX9_appendFour 15 = .ok (.iload_n 1, 1) := by decide +kernel
theorem dX9_appendFour_16 : decode cX9_appendFour 16 = .ok (.iload_n 2, 1) := by decide +kernel
theorem dX9_appendFour_17 : decode cX9_appendFour 17 = .ok (.ishr, 1) := by decide +kernel
theorem dX9_appendFour_18 : decode cX9_appendFour 18 = .ok (.sipush 255, 3) := by decide +kernel
theorem dX9_appendFour_21 : decode cX9_appendFour 21 = .ok (.iand, 1) := by decide +kernel
theorem dX9_appendFour_22 : decode cX9_appendFour 22 = .ok (.iastore, 1) := by decide +kernel
theorem dX9_appendFour_23 : decode cX9_appendFour 23 = .ok (.aload_n 0, 1) := by decide +kernel
theorem dX9_appendFour_24 : decode cX9_appendFour 24 = .ok (.dup, 1) := by decide +kernel
theorem dX9_appendFour_25 : decode cX9_appendFour 25 = .ok (.getfield 35, 3) := by decide +kernel
theorem dX9_appendFour_28 : decode cX9_appendFour 28 = .ok (.iconst 1, 1) := by decide +kernel
theorem dX9_appendFour_29 : decode cX9_appendFour 29 = .ok (.iadd, 1) := by decide +kernel
theorem dX9_appendFour_30 : decode cX9_appendFour 30 = .ok (.putfield 35, 3) := by decide +kernel
theorem dX9_appendFour_33 : decode cX9_appendFour 33 = .ok (.iinc 2 (-8), 3) := by decide +kernel
theorem dX9_appendFour_36 : decode cX9_appendFour 36 = .ok (.goto (-33), 3) := by decide +kernel
theorem dX9_appendFour_39 : decode cX9_appendFour 39 = .ok (.return_, 1) := by decide +kernel
def v_X9_appendFour : List Cond := .code yX9_appendFour cX9_appendFour 3 none :: ([.fieldLink RX9 9 "RestBoard$Table" "tape" "[I", .fieldLink RX9 35 "RestBoard$Table" "length" "I"] ++ wsX90)
theorem m_X9_appendFour_0 : (.fieldLink RX9 9 "RestBoard$Table" "tape" "[I" : Cond) ∈ v_X9_appendFour := List.mem_of_getElem? (i := 1) (by decide +kernel)
theorem m_X9_appendFour_1 : (.fieldLink RX9 35 "RestBoard$Table" "length" "I" : Cond) ∈ v_X9_appendFour := List.mem_of_getElem? (i := 2) (by decide +kernel)
theorem i_X9_appendFour_X9 : ∀ w ∈ u_ws RX9 TX9 15, w ∈ v_X9_appendFour := fun w h => List.mem_cons_of_mem _ (List.mem_append_right _ h)
set_option maxHeartbeats 4000000 in
set_option maxRecDepth 100000 in
theorem c_X9_appendFour_0 (l : Launch) (dC : Nat → ClassId) (dI : Nat → Nat → Nat) (cy : Nat → ClassId) (a : Nat → Nat) (g : Nat → Nat → Option Nat) (f : Nat → Int32) (sz : Nat) (p0 : Int32) : Met l yX9_appendFour v_X9_appendFour ({ frames := 0, cells := 0, slots := 0, locals := 0 }) (va_Pc [.ref (a 24), .int p0] (ps dC dI cy ([(a 24, .inr (9, [.ref (a 21), .ref (a 25), .int 0, .int 0, .int 0, .int (-1), .int 0, .ref (a 26), .ref (a 27), .int 0, .ref (a 63), .ref (a 64), .int 0, .int 0, .int 0])), (a 25, .inl (cy 0, 400, .inl f))]) sz)) (va_Qv (fun (_ : uS) => True) (fun (u : uS) (t : State) => va_P (dC, dI) vwCl ([(a 24, .inr (9, [.ref (a 21), .ref (a 25), .int 4, .int 0, .int 0, .int (-1), .int 0, .ref (a 26), .ref (a 27), .int 0, .ref (a 63), .ref (a 64), .int 0, .int 0, .int 0])), (a 25, .inl (cy 0, 400, .inl (u.2.1 0)))]) t.heap ∧ va_D (va_A ([(a 24, .inr (9, [.ref (a 21), .ref (a 25), .int 0, .int 0, .int 0, .int (-1), .int 0, .ref (a 26), .ref (a 27), .int 0, .ref (a 63), .ref (a 64), .int 0, .int 0, .int 0])), (a 25, .inl (cy 0, 400, .inl f))]) sz) ([(a 24, .inr (9, [.ref (a 21), .ref (a 25), .int 4, .int 0, .int 0, .int (-1), .int 0, .ref (a 26), .ref (a 27), .int 0, .ref (a 63), .ref (a 64), .int 0, .int 0, .int 0])), (a 25, .inl (cy 0, 400, .inl (u.2.1 0)))])) (va_A ([(a 24, .inr (9, [.ref (a 21), .ref (a 25), .int 0, .int 0, .int 0, .int (-1), .int 0, .ref (a 26), .ref (a 27), .int 0, .ref (a 63), .ref (a 64), .int 0, .int 0, .int 0])), (a 25, .inl (cy 0, 400, .inl f))]) sz)) 0 0 (va_A ([(a 24, .inr (9, [.ref (a 21), .ref (a 25), .int 0, .int 0, .int 0, .int (-1), .int 0, .ref (a 26), .ref (a 27), .int 0, .ref (a 63), .ref (a 64), .int 0, .int 0, .int 0])), (a 25, .inl (cy 0, 400, .inl f))]) sz) := by
  refine Met.ofW (cc := cX9_appendFour) (maxL := 3) (ret := none) (by decide) rfl ?_
  intro p e s m args below meth c s₁ B hml hv
  obtain ⟨rfl, hsz, hP, hC, hD0⟩ := hv
  have hK := hC.1
  have hx := B.exec
  have hb := B.bytes
  have hr := B.returns
  have hts := atoms_spec (ws := v_X9_appendFour) B.pre
  have hown : s.vm.findClass RX9 = some m.cls := findClass_of_methodNamed B.named
  have hlocks := B.notSynchronized
  subst hsz
  have hD := hD0.self (sz := s.heap.size)
  generalize hAe : va_A ([(a 24, .inr (9, [.ref (a 21), .ref (a 25), .int 0, .int 0, .int 0, .int (-1), .int 0, .ref (a 26), .ref (a 27), .int 0, .ref (a 63), .ref (a 64), .int 0, .int 0, .int 0])), (a 25, .inl (cy 0, 400, .inl f))]) s.heap.size = A at hD ⊢
  have hA : ∀ q : Nat, s.heap.size ≤ q → A q := fun q h => by rw [← hAe]; exact Or.inr h
  have hS : va_S A s.heap s.heap [] := va_S.rf
  have hl := lv_entry ([.ref (a 24), .int p0]) (n := 3) (Nat.le_of_ble_eq_true rfl)
  rw [lg_entry_eq]
  generalize (lg_sl ([.ref (a 24), .int p0]) ++ List.replicate (3 - (lg_sl ([.ref (a 24), .int p0])).length) Slot.unset).toArray = ls at hl ⊢
  have hl : lv_has ls 3 [(0, .ref (a 24)), (1, .int p0)] := hl
  refine lv_bipush (v := 24) hx hb dX9_appendFour_0 (by decide) ?_
  refine lv_istore_n (lv' := [(2, .int 24), (0, .ref (a 24)), (1, .int p0)]) hx hb dX9_appendFour_2 rfl hl (by decide) rfl (fun ls hl => ?_)
  refine lv_iload_n hx hb dX9_appendFour_3 rfl (lv_at hl 0 rfl) ?_
  refine lv_if_lt (tgt := 39) hx hb dX9_appendFour_4 (by decide) (fun c9_ => absurd c9_ (by decide)) (fun _ => ?_)
  refine lv_aload_n hx hb dX9_appendFour_7 rfl (lv_at hl 1 rfl) ?_
  refine va_get (D := (dC, dI)) (ci := 9) (v := .ref (a 25)) (C := RX9) (T := TX9) (N := 15) hx hb hts i_X9_appendFour_X9 hown hK hP 0 rfl rfl 1 (by decide) (hts _ m_X9_appendFour_0) (fun _ h9 => h9) rfl dX9_appendFour_8 ?_
  refine lv_aload_n hx hb dX9_appendFour_11 rfl (lv_at hl 1 rfl) ?_
  refine va_get (D := (dC, dI)) (ci := 9) (v := .int 0) (C := RX9) (T := TX9) (N := 15) hx hb hts i_X9_appendFour_X9 hown hK hP 0 rfl rfl 2 (by decide) (hts _ m_X9_appendFour_1) (fun _ h9 => h9) rfl dX9_appendFour_12 ?_
  refine lv_iload_n hx hb dX9_appendFour_15 rfl (lv_at hl 2 rfl) ?_
  refine lv_iload_n hx hb dX9_appendFour_16 rfl (lv_at hl 0 rfl) ?_
  refine lv_ishr hx hb dX9_appendFour_17 ?_
  refine lv_sipush (v := 255) hx hb dX9_appendFour_18 (by decide) ?_
  refine lv_iand hx hb dX9_appendFour_21 ?_
  refine va_iast hx hb hK hP hD hS 1 0 rfl rfl (show ¬ ((0 : Int32) < 0 ∨ 400 ≤ Int32.toNatClampNeg 0) by decide) dX9_appendFour_22 (fun H locs hP hD hS => ?_)
  refine lv_aload_n hx hb dX9_appendFour_23 rfl (lv_at hl 1 rfl) ?_
  refine lv_dup hx hb dX9_appendFour_24 rfl ?_
  refine va_get (D := (dC, dI)) (ci := 9) (v := .int 0) (C := RX9) (T := TX9) (N := 15) hx hb hts i_X9_appendFour_X9 hown hK hP 0 rfl rfl 2 (by decide) (hts _ m_X9_appendFour_1) (fun _ h9 => h9) rfl dX9_appendFour_25 ?_
  refine lv_iconst (v := 1) hx hb dX9_appendFour_28 (by decide) ?_
  refine lv_iadd hx hb dX9_appendFour_29 ?_
  refine tk_i 1 (by decide) ?_
  refine va_put (D := (dC, dI)) (ci := 9) (v := .int 1) (ty := .int) (C := RX9) (T := TX9) (N := 15) hx hb hts i_X9_appendFour_X9 tyX9 tyX9_ok nmX9 hown hK hP hD hS 0 rfl rfl 2 (by decide) (hts _ m_X9_appendFour_1) (fun _ h9 => h9) rfl (by decide +kernel) rfl rfl (Nat.le_of_ble_eq_true rfl) dX9_appendFour_30 (fun H locs hP hD hS => ?_)
  refine lv_iinc (v := 16) (lv' := [(2, .int 16), (0, .ref (a 24)), (1, .int p0)]) hx hb dX9_appendFour_33 hl (k := 0) rfl (by decide) (by decide) rfl (fun ls hl => ?_)
  refine lv_goto (tgt := 3) hx hb dX9_appendFour_36 (by decide) ?_
  refine lv_iload_n hx hb dX9_appendFour_3 rfl (lv_at hl 0 rfl) ?_
  refine lv_if_lt (tgt := 39) hx hb dX9_appendFour_4 (by decide) (fun c9_ => absurd c9_ (by decide)) (fun _ => ?_)
  refine lv_aload_n hx hb dX9_appendFour_7 rfl (lv_at hl 1 rfl) ?_
  refine va_get (D := (dC, dI)) (ci := 9) (v := .ref (a 25)) (C := RX9) (T := TX9) (N := 15) hx hb hts i_X9_appendFour_X9 hown hK hP 0 rfl rfl 1 (by decide) (hts _ m_X9_appendFour_0) (fun _ h9 => h9) rfl dX9_appendFour_8 ?_
  refine lv_aload_n hx hb dX9_appendFour_11 rfl (lv_at hl 1 rfl) ?_
  refine va_get (D := (dC, dI)) (ci := 9) (v := .int 1) (C := RX9) (T := TX9) (N := 15) hx hb hts i_X9_appendFour_X9 hown hK hP 0 rfl rfl 2 (by decide) (hts _ m_X9_appendFour_1) (fun _ h9 => h9) rfl dX9_appendFour_12 ?_
  refine lv_iload_n hx hb dX9_appendFour_15 rfl (lv_at hl 2 rfl) ?_
  refine lv_iload_n hx hb dX9_appendFour_16 rfl (lv_at hl 0 rfl) ?_
  refine lv_ishr hx hb dX9_appendFour_17 ?_
  refine lv_sipush (v := 255) hx hb dX9_appendFour_18 (by decide) ?_
  refine lv_iand hx hb dX9_appendFour_21 ?_
  refine va_iast hx hb hK hP hD hS 1 0 rfl rfl (show ¬ ((1 : Int32) < 0 ∨ 400 ≤ Int32.toNatClampNeg 1) by decide) dX9_appendFour_22 (fun H locs hP hD hS => ?_)
  refine lv_aload_n hx hb dX9_appendFour_23 rfl (lv_at hl 1 rfl) ?_
  refine lv_dup hx hb dX9_appendFour_24 rfl ?_
  refine va_get (D := (dC, dI)) (ci := 9) (v := .int 1) (C := RX9) (T := TX9) (N := 15) hx hb hts i_X9_appendFour_X9 hown hK hP 0 rfl rfl 2 (by decide) (hts _ m_X9_appendFour_1) (fun _ h9 => h9) rfl dX9_appendFour_25 ?_
  refine lv_iconst (v := 1) hx hb dX9_appendFour_28 (by decide) ?_
  refine lv_iadd hx hb dX9_appendFour_29 ?_
  refine tk_i 2 (by decide) ?_
  refine va_put (D := (dC, dI)) (ci := 9) (v := .int 2) (ty := .int) (C := RX9) (T := TX9) (N := 15) hx hb hts i_X9_appendFour_X9 tyX9 tyX9_ok nmX9 hown hK hP hD hS 0 rfl rfl 2 (by decide) (hts _ m_X9_appendFour_1) (fun _ h9 => h9) rfl (by decide +kernel) rfl rfl (Nat.le_of_ble_eq_true rfl) dX9_appendFour_30 (fun H locs hP hD hS => ?_)
  refine lv_iinc (v := 8) (lv' := [(2, .int 8), (0, .ref (a 24)), (1, .int p0)]) hx hb dX9_appendFour_33 hl (k := 0) rfl (by decide) (by decide) rfl (fun ls hl => ?_)
  refine lv_goto (tgt := 3) hx hb dX9_appendFour_36 (by decide) ?_
  refine lv_iload_n hx hb dX9_appendFour_3 rfl (lv_at hl 0 rfl) ?_
  refine lv_if_lt (tgt := 39) hx hb dX9_appendFour_4 (by decide) (fun c9_ => absurd c9_ (by decide)) (fun _ => ?_)
  refine lv_aload_n hx hb dX9_appendFour_7 rfl (lv_at hl 1 rfl) ?_
  refine va_get (D := (dC, dI)) (ci := 9) (v := .ref (a 25)) (C := RX9) (T := TX9) (N := 15) hx hb hts i_X9_appendFour_X9 hown hK hP 0 rfl rfl 1 (by decide) (hts _ m_X9_appendFour_0) (fun _ h9 => h9) rfl dX9_appendFour_8 ?_
  refine lv_aload_n hx hb dX9_appendFour_11 rfl (lv_at hl 1 rfl) ?_
  refine va_get (D := (dC, dI)) (ci := 9) (v := .int 2) (C := RX9) (T := TX9) (N := 15) hx hb hts i_X9_appendFour_X9 hown hK hP 0 rfl rfl 2 (by decide) (hts _ m_X9_appendFour_1) (fun _ h9 => h9) rfl dX9_appendFour_12 ?_
  refine lv_iload_n hx hb dX9_appendFour_15 rfl (lv_at hl 2 rfl) ?_
  refine lv_iload_n hx hb dX9_appendFour_16 rfl (lv_at hl 0 rfl) ?_
  refine lv_ishr hx hb dX9_appendFour_17 ?_
  refine lv_sipush (v := 255) hx hb dX9_appendFour_18 (by decide) ?_
  refine lv_iand hx hb dX9_appendFour_21 ?_
  refine va_iast hx hb hK hP hD hS 1 0 rfl rfl (show ¬ ((2 : Int32) < 0 ∨ 400 ≤ Int32.toNatClampNeg 2) by decide) dX9_appendFour_22 (fun H locs hP hD hS => ?_)
  refine lv_aload_n hx hb dX9_appendFour_23 rfl (lv_at hl 1 rfl) ?_
  refine lv_dup hx hb dX9_appendFour_24 rfl ?_
  refine va_get (D := (dC, dI)) (ci := 9) (v := .int 2) (C := RX9) (T := TX9) (N := 15) hx hb hts i_X9_appendFour_X9 hown hK hP 0 rfl rfl 2 (by decide) (hts _ m_X9_appendFour_1) (fun _ h9 => h9) rfl dX9_appendFour_25 ?_
  refine lv_iconst (v := 1) hx hb dX9_appendFour_28 (by decide) ?_
  refine lv_iadd hx hb dX9_appendFour_29 ?_
  refine tk_i 3 (by decide) ?_
  refine va_put (D := (dC, dI)) (ci := 9) (v := .int 3) (ty := .int) (C := RX9) (T := TX9) (N := 15) hx hb hts i_X9_appendFour_X9 tyX9 tyX9_ok nmX9 hown hK hP hD hS 0 rfl rfl 2 (by decide) (hts _ m_X9_appendFour_1) (fun _ h9 => h9) rfl (by decide +kernel) rfl rfl (Nat.le_of_ble_eq_true rfl) dX9_appendFour_30 (fun H locs hP hD hS => ?_)
  refine lv_iinc (v := 0) (lv' := [(2, .int 0), (0, .ref (a 24)), (1, .int p0)]) hx hb dX9_appendFour_33 hl (k := 0) rfl (by decide) (by decide) rfl (fun ls hl => ?_)
  refine lv_goto (tgt := 3) hx hb dX9_appendFour_36 (by decide) ?_
  refine lv_iload_n hx hb dX9_appendFour_3 rfl (lv_at hl 0 rfl) ?_
  refine lv_if_lt (tgt := 39) hx hb dX9_appendFour_4 (by decide) (fun c9_ => absurd c9_ (by decide)) (fun _ => ?_)
  refine lv_aload_n hx hb dX9_appendFour_7 rfl (lv_at hl 1 rfl) ?_
  refine va_get (D := (dC, dI)) (ci := 9) (v := .ref (a 25)) (C := RX9) (T := TX9) (N := 15) hx hb hts i_X9_appendFour_X9 hown hK hP 0 rfl rfl 1 (by decide) (hts _ m_X9_appendFour_0) (fun _ h9 => h9) rfl dX9_appendFour_8 ?_
  refine lv_aload_n hx hb dX9_appendFour_11 rfl (lv_at hl 1 rfl) ?_
  refine va_get (D := (dC, dI)) (ci := 9) (v := .int 3) (C := RX9) (T := TX9) (N := 15) hx hb hts i_X9_appendFour_X9 hown hK hP 0 rfl rfl 2 (by decide) (hts _ m_X9_appendFour_1) (fun _ h9 => h9) rfl dX9_appendFour_12 ?_
  refine lv_iload_n hx hb dX9_appendFour_15 rfl (lv_at hl 2 rfl) ?_
  refine lv_iload_n hx hb dX9_appendFour_16 rfl (lv_at hl 0 rfl) ?_
  refine lv_ishr hx hb dX9_appendFour_17 ?_
  refine lv_sipush (v := 255) hx hb dX9_appendFour_18 (by decide) ?_
  refine lv_iand hx hb dX9_appendFour_21 ?_
  refine va_iast hx hb hK hP hD hS 1 0 rfl rfl (show ¬ ((3 : Int32) < 0 ∨ 400 ≤ Int32.toNatClampNeg 3) by decide) dX9_appendFour_22 (fun H locs hP hD hS => ?_)
  refine lv_aload_n hx hb dX9_appendFour_23 rfl (lv_at hl 1 rfl) ?_
  refine lv_dup hx hb dX9_appendFour_24 rfl ?_
  refine va_get (D := (dC, dI)) (ci := 9) (v := .int 3) (C := RX9) (T := TX9) (N := 15) hx hb hts i_X9_appendFour_X9 hown hK hP 0 rfl rfl 2 (by decide) (hts _ m_X9_appendFour_1) (fun _ h9 => h9) rfl dX9_appendFour_25 ?_
  refine lv_iconst (v := 1) hx hb dX9_appendFour_28 (by decide) ?_
  refine lv_iadd hx hb dX9_appendFour_29 ?_
  refine tk_i 4 (by decide) ?_
  refine va_put (D := (dC, dI)) (ci := 9) (v := .int 4) (ty := .int) (C := RX9) (T := TX9) (N := 15) hx hb hts i_X9_appendFour_X9 tyX9 tyX9_ok nmX9 hown hK hP hD hS 0 rfl rfl 2 (by decide) (hts _ m_X9_appendFour_1) (fun _ h9 => h9) rfl (by decide +kernel) rfl rfl (Nat.le_of_ble_eq_true rfl) dX9_appendFour_30 (fun H locs hP hD hS => ?_)
  refine lv_iinc (v := (-8)) (lv' := [(2, .int (-8)), (0, .ref (a 24)), (1, .int p0)]) hx hb dX9_appendFour_33 hl (k := 0) rfl (by decide) (by decide) rfl (fun ls hl => ?_)
  refine lv_goto (tgt := 3) hx hb dX9_appendFour_36 (by decide) ?_
  refine lv_iload_n hx hb dX9_appendFour_3 rfl (lv_at hl 0 rfl) ?_
  refine lv_if_lt (tgt := 39) hx hb dX9_appendFour_4 (by decide) (fun _ => ?_) (fun c9_ => absurd (by decide) c9_)
  have hP9 := hP.sub (ws' := [(a 24, .inr (9, [.ref (a 21), .ref (a 25), .int 4, .int 0, .int 0, .int (-1), .int 0, .ref (a 26), .ref (a 27), .int 0, .ref (a 63), .ref (a 64), .int 0, .int 0, .int 0])), (a 25, .inl (cy 0, 400, .inl (upd (upd (upd (upd f 0 ((p0 >>> (24 &&& 31)) &&& 255)) 1 ((p0 >>> (16 &&& 31)) &&& 255)) 2 ((p0 >>> (8 &&& 31)) &&& 255)) 3 ((p0 >>> (0 &&& 31)) &&& 255))))]) [0, 1] rfl
  have hD9 := hD.sub (ws' := [(a 24, .inr (9, [.ref (a 21), .ref (a 25), .int 4, .int 0, .int 0, .int (-1), .int 0, .ref (a 26), .ref (a 27), .int 0, .ref (a 63), .ref (a 64), .int 0, .int 0, .int 0])), (a 25, .inl (cy 0, 400, .inl (upd (upd (upd (upd f 0 ((p0 >>> (24 &&& 31)) &&& 255)) 1 ((p0 >>> (16 &&& 31)) &&& 255)) 2 ((p0 >>> (8 &&& 31)) &&& 255)) 3 ((p0 >>> (0 &&& 31)) &&& 255))))]) [0, 1] (by decide) rfl
  exact W.vret hx hb hr (fun t ht hW => ⟨⟨((fun k => [].getD k 0, fun k => [(upd (upd (upd (upd f 0 ((p0 >>> (24 &&& 31)) &&& 255)) 1 ((p0 >>> (16 &&& 31)) &&& 255)) 2 ((p0 >>> (8 &&& 31)) &&& 255)) 3 ((p0 >>> (0 &&& 31)) &&& 255))].getD k (fun _ => 0), fun k => [].getD k (fun _ => none)) : uS), rfl, trivial, (by rw [ht]; exact hP9), hD9⟩, hS.F ht⟩) hS.2.2 dX9_appendFour_39

set_option maxHeartbeats 4000000 in
set_option maxRecDepth 100000 in
theorem c_X9_appendFour_4 (l : Launch) (dC : Nat → ClassId) (dI : Nat → Nat → Nat) (cy : Nat → ClassId) (a : Nat → Nat) (g : Nat → Nat → Option Nat) (f : Nat → Int32) (sz : Nat) (p0 : Int32) : Met l yX9_appendFour v_X9_appendFour ({ frames := 0, cells := 0, slots := 0, locals := 0 }) (va_Pc [.ref (a 24), .int p0] (ps dC dI cy ([(a 24, .inr (9, [.ref (a 21), .ref (a 25), .int 4, .int 0, .int 0, .int (-1), .int 0, .ref (a 26), .ref (a 27), .int 0, .ref (a 63), .ref (a 64), .int 0, .int 0, .int 0])), (a 25, .inl (cy 0, 400, .inl f))]) sz)) (va_Qv (fun (_ : uS) => True) (fun (u : uS) (t : State) => va_P (dC, dI) vwCl ([(a 24, .inr (9, [.ref (a 21), .ref (a 25), .int 8, .int 0, .int 0, .int (-1), .int 0, .ref (a 26), .ref (a 27), .int 0, .ref (a 63), .ref (a 64), .int 0, .int 0, .int 0])), (a 25, .inl (cy 0, 400, .inl (u.2.1 0)))]) t.heap ∧ va_D (va_A ([(a 24, .inr (9, [.ref (a 21), .ref (a 25), .int 4, .int 0, .int 0, .int (-1), .int 0, .ref (a 26), .ref (a 27), .int 0, .ref (a 63), .ref (a 64), .int 0, .int 0, .int 0])), (a 25, .inl (cy 0, 400, .inl f))]) sz) ([(a 24, .inr (9, [.ref (a 21), .ref (a 25), .int 8, .int 0, .int 0, .int (-1), .int 0, .ref (a 26), .ref (a 27), .int 0, .ref (a 63), .ref (a 64), .int 0, .int 0, .int 0])), (a 25, .inl (cy 0, 400, .inl (u.2.1 0)))])) (va_A ([(a 24, .inr (9, [.ref (a 21), .ref (a 25), .int 4, .int 0, .int 0, .int (-1), .int 0, .ref (a 26), .ref (a 27), .int 0, .ref (a 63), .ref (a 64), .int 0, .int 0, .int 0])), (a 25, .inl (cy 0, 400, .inl f))]) sz)) 0 0 (va_A ([(a 24, .inr (9, [.ref (a 21), .ref (a 25), .int 4, .int 0, .int 0, .int (-1), .int 0, .ref (a 26), .ref (a 27), .int 0, .ref (a 63), .ref (a 64), .int 0, .int 0, .int 0])), (a 25, .inl (cy 0, 400, .inl f))]) sz) := by
  refine Met.ofW (cc := cX9_appendFour) (maxL := 3) (ret := none) (by decide) rfl ?_
  intro p e s m args below meth c s₁ B hml hv
  obtain ⟨rfl, hsz, hP, hC, hD0⟩ := hv
  have hK := hC.1
  have hx := B.exec
  have hb := B.bytes
  have hr := B.returns
  have hts := atoms_spec (ws := v_X9_appendFour) B.pre
  have hown : s.vm.findClass RX9 = some m.cls := findClass_of_methodNamed B.named
  have hlocks := B.notSynchronized
  subst hsz
  have hD := hD0.self (sz := s.heap.size)
  generalize hAe : va_A ([(a 24, .inr (9, [.ref (a 21), .ref (a 25), .int 4, .int 0, .int 0, .int (-1), .int 0, .ref (a 26), .ref (a 27), .int 0, .ref (a 63), .ref (a 64), .int 0, .int 0, .int 0])), (a 25, .inl (cy 0, 400, .inl f))]) s.heap.size = A at hD ⊢
  have hA : ∀ q : Nat, s.heap.size ≤ q → A q := fun q h => by rw [← hAe]; exact Or.inr h
  have hS : va_S A s.heap s.heap [] := va_S.rf
  have hl := lv_entry ([.ref (a 24), .int p0]) (n := 3) (Nat.le_of_ble_eq_true rfl)
  rw [lg_entry_eq]
  generalize (lg_sl ([.ref (a 24), .int p0]) ++ List.replicate (3 - (lg_sl ([.ref (a 24), .int p0])).length) Slot.unset).toArray = ls at hl ⊢
  have hl : lv_has ls 3 [(0, .ref (a 24)), (1, .int p0)] := hl
  refine lv_bipush (v := 24) hx hb dX9_appendFour_0 (by decide) ?_
  refine lv_istore_n (lv' := [(2, .int 24), (0, .ref (a 24)), (1, .int p0)]) hx hb dX9_appendFour_2 rfl hl (by decide) rfl (fun ls hl => ?_)
  refine lv_iload_n hx hb dX9_appendFour_3 rfl (lv_at hl 0 rfl) ?_
  refine lv_if_lt (tgt := 39) hx hb dX9_appendFour_4 (by decide) (fun c9_ => absurd c9_ (by decide)) (fun _ => ?_)
  refine lv_aload_n hx hb dX9_appendFour_7 rfl (lv_at hl 1 rfl) ?_
  refine va_get (D := (dC, dI)) (ci := 9) (v := .ref (a 25)) (C := RX9) (T := TX9) (N := 15) hx hb hts i_X9_appendFour_X9 hown hK hP 0 rfl rfl 1 (by decide) (hts _ m_X9_appendFour_0) (fun _ h9 => h9) rfl dX9_appendFour_8 ?_
  refine lv_aload_n hx hb dX9_appendFour_11 rfl (lv_at hl 1 rfl) ?_
  refine va_get (D := (dC, dI)) (ci := 9) (v := .int 4) (C := RX9) (T := TX9) (N := 15) hx hb hts i_X9_appendFour_X9 hown hK hP 0 rfl rfl 2 (by decide) (hts _ m_X9_appendFour_1) (fun _ h9 => h9) rfl dX9_appendFour_12 ?_
  refine lv_iload_n hx hb dX9_appendFour_15 rfl (lv_at hl 2 rfl) ?_
  refine lv_iload_n hx hb dX9_appendFour_16 rfl (lv_at hl 0 rfl) ?_
  refine lv_ishr hx hb dX9_appendFour_17 ?_
  refine lv_sipush (v := 255) hx hb dX9_appendFour_18 (by decide) ?_
  refine lv_iand hx hb dX9_appendFour_21 ?_
  refine va_iast hx hb hK hP hD hS 1 0 rfl rfl (show ¬ ((4 : Int32) < 0 ∨ 400 ≤ Int32.toNatClampNeg 4) by decide) dX9_appendFour_22 (fun H locs hP hD hS => ?_)
  refine lv_aload_n hx hb dX9_appendFour_23 rfl (lv_at hl 1 rfl) ?_
  refine lv_dup hx hb dX9_appendFour_24 rfl ?_
  refine va_get (D := (dC, dI)) (ci := 9) (v := .int 4) (C := RX9) (T := TX9) (N := 15) hx hb hts i_X9_appendFour_X9 hown hK hP 0 rfl rfl 2 (by decide) (hts _ m_X9_appendFour_1) (fun _ h9 => h9) rfl dX9_appendFour_25 ?_
  refine lv_iconst (v := 1) hx hb dX9_appendFour_28 (by decide) ?_
  refine lv_iadd hx hb dX9_appendFour_29 ?_
  refine tk_i 5 (by decide) ?_
  refine va_put (D := (dC, dI)) (ci := 9) (v := .int 5) (ty := .int) (C := RX9) (T := TX9) (N := 15) hx hb hts i_X9_appendFour_X9 tyX9 tyX9_ok nmX9 hown hK hP hD hS 0 rfl rfl 2 (by decide) (hts _ m_X9_appendFour_1) (fun _ h9 => h9) rfl (by decide +kernel) rfl rfl (Nat.le_of_ble_eq_true rfl) dX9_appendFour_30 (fun H locs hP hD hS => ?_)
  refine lv_iinc (v := 16) (lv' := [(2, .int 16), (0, .ref (a 24)), (1, .int p0)]) hx hb dX9_appendFour_33 hl (k := 0) rfl (by decide) (by decide) rfl (fun ls hl => ?_)
  refine lv_goto (tgt := 3) hx hb dX9_appendFour_36 (by decide) ?_
  refine lv_iload_n hx hb dX9_appendFour_3 rfl (lv_at hl 0 rfl) ?_
  refine lv_if_lt (tgt := 39) hx hb dX9_appendFour_4 (by decide) (fun c9_ => absurd c9_ (by decide)) (fun _ => ?_)
  refine lv_aload_n hx hb dX9_appendFour_7 rfl (lv_at hl 1 rfl) ?_
  refine va_get (D := (dC, dI)) (ci := 9) (v := .ref (a 25)) (C := RX9) (T := TX9) (N := 15) hx hb hts i_X9_appendFour_X9 hown hK hP 0 rfl rfl 1 (by decide) (hts _ m_X9_appendFour_0) (fun _ h9 => h9) rfl dX9_appendFour_8 ?_
  refine lv_aload_n hx hb dX9_appendFour_11 rfl (lv_at hl 1 rfl) ?_
  refine va_get (D := (dC, dI)) (ci := 9) (v := .int 5) (C := RX9) (T := TX9) (N := 15) hx hb hts i_X9_appendFour_X9 hown hK hP 0 rfl rfl 2 (by decide) (hts _ m_X9_appendFour_1) (fun _ h9 => h9) rfl dX9_appendFour_12 ?_
  refine lv_iload_n hx hb dX9_appendFour_15 rfl (lv_at hl 2 rfl) ?_
  refine lv_iload_n hx hb dX9_appendFour_16 rfl (lv_at hl 0 rfl) ?_
  refine lv_ishr hx hb dX9_appendFour_17 ?_
  refine lv_sipush (v := 255) hx hb dX9_appendFour_18 (by decide) ?_
  refine lv_iand hx hb dX9_appendFour_21 ?_
  refine va_iast hx hb hK hP hD hS 1 0 rfl rfl (show ¬ ((5 : Int32) < 0 ∨ 400 ≤ Int32.toNatClampNeg 5) by decide) dX9_appendFour_22 (fun H locs hP hD hS => ?_)
  refine lv_aload_n hx hb dX9_appendFour_23 rfl (lv_at hl 1 rfl) ?_
  refine lv_dup hx hb dX9_appendFour_24 rfl ?_
  refine va_get (D := (dC, dI)) (ci := 9) (v := .int 5) (C := RX9) (T := TX9) (N := 15) hx hb hts i_X9_appendFour_X9 hown hK hP 0 rfl rfl 2 (by decide) (hts _ m_X9_appendFour_1) (fun _ h9 => h9) rfl dX9_appendFour_25 ?_
  refine lv_iconst (v := 1) hx hb dX9_appendFour_28 (by decide) ?_
  refine lv_iadd hx hb dX9_appendFour_29 ?_
  refine tk_i 6 (by decide) ?_
  refine va_put (D := (dC, dI)) (ci := 9) (v := .int 6) (ty := .int) (C := RX9) (T := TX9) (N := 15) hx hb hts i_X9_appendFour_X9 tyX9 tyX9_ok nmX9 hown hK hP hD hS 0 rfl rfl 2 (by decide) (hts _ m_X9_appendFour_1) (fun _ h9 => h9) rfl (by decide +kernel) rfl rfl (Nat.le_of_ble_eq_true rfl) dX9_appendFour_30 (fun H locs hP hD hS => ?_)
  refine lv_iinc (v := 8) (lv' := [(2, .int 8), (0, .ref (a 24)), (1, .int p0)]) hx hb dX9_appendFour_33 hl (k := 0) rfl (by decide) (by decide) rfl (fun ls hl => ?_)
  refine lv_goto (tgt := 3) hx hb dX9_appendFour_36 (by decide) ?_
  refine lv_iload_n hx hb dX9_appendFour_3 rfl (lv_at hl 0 rfl) ?_
  refine lv_if_lt (tgt := 39) hx hb dX9_appendFour_4 (by decide) (fun c9_ => absurd c9_ (by decide)) (fun _ => ?_)
  refine lv_aload_n hx hb dX9_appendFour_7 rfl (lv_at hl 1 rfl) ?_
  refine va_get (D := (dC, dI)) (ci := 9) (v := .ref (a 25)) (C := RX9) (T := TX9) (N := 15) hx hb hts i_X9_appendFour_X9 hown hK hP 0 rfl rfl 1 (by decide) (hts _ m_X9_appendFour_0) (fun _ h9 => h9) rfl dX9_appendFour_8 ?_
  refine lv_aload_n hx hb dX9_appendFour_11 rfl (lv_at hl 1 rfl) ?_
  refine va_get (D := (dC, dI)) (ci := 9) (v := .int 6) (C := RX9) (T := TX9) (N := 15) hx hb hts i_X9_appendFour_X9 hown hK hP 0 rfl rfl 2 (by decide) (hts _ m_X9_appendFour_1) (fun _ h9 => h9) rfl dX9_appendFour_12 ?_
  refine lv_iload_n hx hb dX9_appendFour_15 rfl (lv_at hl 2 rfl) ?_
  refine lv_iload_n hx hb dX9_appendFour_16 rfl (lv_at hl 0 rfl) ?_
  refine lv_ishr hx hb dX9_appendFour_17 ?_
  refine lv_sipush (v := 255) hx hb dX9_appendFour_18 (by decide) ?_
  refine lv_iand hx hb dX9_appendFour_21 ?_
  refine va_iast hx hb hK hP hD hS 1 0 rfl rfl (show ¬ ((6 : Int32) < 0 ∨ 400 ≤ Int32.toNatClampNeg 6) by decide) dX9_appendFour_22 (fun H locs hP hD hS => ?_)
  refine lv_aload_n hx hb dX9_appendFour_23 rfl (lv_at hl 1 rfl) ?_
  refine lv_dup hx hb dX9_appendFour_24 rfl ?_
  refine va_get (D := (dC, dI)) (ci := 9) (v := .int 6) (C := RX9) (T := TX9) (N := 15) hx hb hts i_X9_appendFour_X9 hown hK hP 0 rfl rfl 2 (by decide) (hts _ m_X9_appendFour_1) (fun _ h9 => h9) rfl dX9_appendFour_25 ?_
  refine lv_iconst (v := 1) hx hb dX9_appendFour_28 (by decide) ?_
  refine lv_iadd hx hb dX9_appendFour_29 ?_
  refine tk_i 7 (by decide) ?_
  refine va_put (D := (dC, dI)) (ci := 9) (v := .int 7) (ty := .int) (C := RX9) (T := TX9) (N := 15) hx hb hts i_X9_appendFour_X9 tyX9 tyX9_ok nmX9 hown hK hP hD hS 0 rfl rfl 2 (by decide) (hts _ m_X9_appendFour_1) (fun _ h9 => h9) rfl (by decide +kernel) rfl rfl (Nat.le_of_ble_eq_true rfl) dX9_appendFour_30 (fun H locs hP hD hS => ?_)
  refine lv_iinc (v := 0) (lv' := [(2, .int 0), (0, .ref (a 24)), (1, .int p0)]) hx hb dX9_appendFour_33 hl (k := 0) rfl (by decide) (by decide) rfl (fun ls hl => ?_)
  refine lv_goto (tgt := 3) hx hb dX9_appendFour_36 (by decide) ?_
  refine lv_iload_n hx hb dX9_appendFour_3 rfl (lv_at hl 0 rfl) ?_
  refine lv_if_lt (tgt := 39) hx hb dX9_appendFour_4 (by decide) (fun c9_ => absurd c9_ (by decide)) (fun _ => ?_)
  refine lv_aload_n hx hb dX9_appendFour_7 rfl (lv_at hl 1 rfl) ?_
  refine va_get (D := (dC, dI)) (ci := 9) (v := .ref (a 25)) (C := RX9) (T := TX9) (N := 15) hx hb hts i_X9_appendFour_X9 hown hK hP 0 rfl rfl 1 (by decide) (hts _ m_X9_appendFour_0) (fun _ h9 => h9) rfl dX9_appendFour_8 ?_
  refine lv_aload_n hx hb dX9_appendFour_11 rfl (lv_at hl 1 rfl) ?_
  refine va_get (D := (dC, dI)) (ci := 9) (v := .int 7) (C := RX9) (T := TX9) (N := 15) hx hb hts i_X9_appendFour_X9 hown hK hP 0 rfl rfl 2 (by decide) (hts _ m_X9_appendFour_1) (fun _ h9 => h9) rfl dX9_appendFour_12 ?_
  refine lv_iload_n hx hb dX9_appendFour_15 rfl (lv_at hl 2 rfl) ?_
  refine lv_iload_n hx hb dX9_appendFour_16 rfl (lv_at hl 0 rfl) ?_
  refine lv_ishr hx hb dX9_appendFour_17 ?_
  refine lv_sipush (v := 255) hx hb dX9_appendFour_18 (by decide) ?_
  refine lv_iand hx hb dX9_appendFour_21 ?_
  refine va_iast hx hb hK hP hD hS 1 0 rfl rfl (show ¬ ((7 : Int32) < 0 ∨ 400 ≤ Int32.toNatClampNeg 7) by decide) dX9_appendFour_22 (fun H locs hP hD hS => ?_)
  refine lv_aload_n hx hb dX9_appendFour_23 rfl (lv_at hl 1 rfl) ?_
  refine lv_dup hx hb dX9_appendFour_24 rfl ?_
  refine va_get (D := (dC, dI)) (ci := 9) (v := .int 7) (C := RX9) (T := TX9) (N := 15) hx hb hts i_X9_appendFour_X9 hown hK hP 0 rfl rfl 2 (by decide) (hts _ m_X9_appendFour_1) (fun _ h9 => h9) rfl dX9_appendFour_25 ?_
  refine lv_iconst (v := 1) hx hb dX9_appendFour_28 (by decide) ?_
  refine lv_iadd hx hb dX9_appendFour_29 ?_
  refine tk_i 8 (by decide) ?_
  refine va_put (D := (dC, dI)) (ci := 9) (v := .int 8) (ty := .int) (C := RX9) (T := TX9) (N := 15) hx hb hts i_X9_appendFour_X9 tyX9 tyX9_ok nmX9 hown hK hP hD hS 0 rfl rfl 2 (by decide) (hts _ m_X9_appendFour_1) (fun _ h9 => h9) rfl (by decide +kernel) rfl rfl (Nat.le_of_ble_eq_true rfl) dX9_appendFour_30 (fun H locs hP hD hS => ?_)
  refine lv_iinc (v := (-8)) (lv' := [(2, .int (-8)), (0, .ref (a 24)), (1, .int p0)]) hx hb dX9_appendFour_33 hl (k := 0) rfl (by decide) (by decide) rfl (fun ls hl => ?_)
  refine lv_goto (tgt := 3) hx hb dX9_appendFour_36 (by decide) ?_
  refine lv_iload_n hx hb dX9_appendFour_3 rfl (lv_at hl 0 rfl) ?_
  refine lv_if_lt (tgt := 39) hx hb dX9_appendFour_4 (by decide) (fun _ => ?_) (fun c9_ => absurd (by decide) c9_)
  have hP9 := hP.sub (ws' := [(a 24, .inr (9, [.ref (a 21), .ref (a 25), .int 8, .int 0, .int 0, .int (-1), .int 0, .ref (a 26), .ref (a 27), .int 0, .ref (a 63), .ref (a 64), .int 0, .int 0, .int 0])), (a 25, .inl (cy 0, 400, .inl (upd (upd (upd (upd f 4 ((p0 >>> (24 &&& 31)) &&& 255)) 5 ((p0 >>> (16 &&& 31)) &&& 255)) 6 ((p0 >>> (8 &&& 31)) &&& 255)) 7 ((p0 >>> (0 &&& 31)) &&& 255))))]) [0, 1] rfl
  have hD9 := hD.sub (ws' := [(a 24, .inr (9, [.ref (a 21), .ref (a 25), .int 8, .int 0, .int 0, .int (-1), .int 0, .ref (a 26), .ref (a 27), .int 0, .ref (a 63), .ref (a 64), .int 0, .int 0, .int 0])), (a 25, .inl (cy 0, 400, .inl (upd (upd (upd (upd f 4 ((p0 >>> (24 &&& 31)) &&& 255)) 5 ((p0 >>> (16 &&& 31)) &&& 255)) 6 ((p0 >>> (8 &&& 31)) &&& 255)) 7 ((p0 >>> (0 &&& 31)) &&& 255))))]) [0, 1] (by decide) rfl
  exact W.vret hx hb hr (fun t ht hW => ⟨⟨((fun k => [].getD k 0, fun k => [(upd (upd (upd (upd f 4 ((p0 >>> (24 &&& 31)) &&& 255)) 5 ((p0 >>> (16 &&& 31)) &&& 255)) 6 ((p0 >>> (8 &&& 31)) &&& 255)) 7 ((p0 >>> (0 &&& 31)) &&& 255))].getD k (fun _ => 0), fun k => [].getD k (fun _ => none)) : uS), rfl, trivial, (by rw [ht]; exact hP9), hD9⟩, hS.F ht⟩) hS.2.2 dX9_appendFour_39

set_option maxHeartbeats 4000000 in
set_option maxRecDepth 100000 in
theorem c_X9_appendFour_8 (l : Launch) (dC : Nat → ClassId) (dI : Nat → Nat → Nat) (cy : Nat → ClassId) (a : Nat → Nat) (g : Nat → Nat → Option Nat) (f : Nat → Int32) (sz : Nat) (p0 : Int32) : Met l yX9_appendFour v_X9_appendFour ({ frames := 0, cells := 0, slots := 0, locals := 0 }) (va_Pc [.ref (a 24), .int p0] (ps dC dI cy ([(a 24, .inr (9, [.ref (a 21), .ref (a 25), .int 8, .int 0, .int 0, .int (-1), .int 0, .ref (a 26), .ref (a 27), .int 0, .ref (a 63), .ref (a 64), .int 0, .int 0, .int 0])), (a 25, .inl (cy 0, 400, .inl f))]) sz)) (va_Qv (fun (_ : uS) => True) (fun (u : uS) (t : State) => va_P (dC, dI) vwCl ([(a 24, .inr (9, [.ref (a 21), .ref (a 25), .int 12, .int 0, .int 0, .int (-1), .int 0, .ref (a 26), .ref (a 27), .int 0, .ref (a 63), .ref (a 64), .int 0, .int 0, .int 0])), (a 25, .inl (cy 0, 400, .inl (u.2.1 0)))]) t.heap ∧ va_D (va_A ([(a 24, .inr (9, [.ref (a 21), .ref (a 25), .int 8, .int 0, .int 0, .int (-1), .int 0, .ref (a 26), .ref (a 27), .int 0, .ref (a 63), .ref (a 64), .int 0, .int 0, .int 0])), (a 25, .inl (cy 0, 400, .inl f))]) sz) ([(a 24, .inr (9, [.ref (a 21), .ref (a 25), .int 12, .int 0, .int 0, .int (-1), .int 0, .ref (a 26), .ref (a 27), .int 0, .ref (a 63), .ref (a 64), .int 0, .int 0, .int 0])), (a 25, .inl (cy 0, 400, .inl (u.2.1 0)))])) (va_A ([(a 24, .inr (9, [.ref (a 21), .ref (a 25), .int 8, .int 0, .int 0, .int (-1), .int 0, .ref (a 26), .ref (a 27), .int 0, .ref (a 63), .ref (a 64), .int 0, .int 0, .int 0])), (a 25, .inl (cy 0, 400, .inl f))]) sz)) 0 0 (va_A ([(a 24, .inr (9, [.ref (a 21), .ref (a 25), .int 8, .int 0, .int 0, .int (-1), .int 0, .ref (a 26), .ref (a 27), .int 0, .ref (a 63), .ref (a 64), .int 0, .int 0, .int 0])), (a 25, .inl (cy 0, 400, .inl f))]) sz) := by
  refine Met.ofW (cc := cX9_appendFour) (maxL := 3) (ret := none) (by decide) rfl ?_
  intro p e s m args below meth c s₁ B hml hv
  obtain ⟨rfl, hsz, hP, hC, hD0⟩ := hv
  have hK := hC.1
  have hx := B.exec
  have hb := B.bytes
  have hr := B.returns
  have hts := atoms_spec (ws := v_X9_appendFour) B.pre
  have hown : s.vm.findClass RX9 = some m.cls := findClass_of_methodNamed B.named
  have hlocks := B.notSynchronized
  subst hsz
  have hD := hD0.self (sz := s.heap.size)
  generalize hAe : va_A ([(a 24, .inr (9, [.ref (a 21), .ref (a 25), .int 8, .int 0, .int 0, .int (-1), .int 0, .ref (a 26), .ref (a 27), .int 0, .ref (a 63), .ref (a 64), .int 0, .int 0, .int 0])), (a 25, .inl (cy 0, 400, .inl f))]) s.heap.size = A at hD ⊢
  have hA : ∀ q : Nat, s.heap.size ≤ q → A q := fun q h => by rw [← hAe]; exact Or.inr h
  have hS : va_S A s.heap s.heap [] := va_S.rf
  have hl := lv_entry ([.ref (a 24), .int p0]) (n := 3) (Nat.le_of_ble_eq_true rfl)
  rw [lg_entry_eq]
  generalize (lg_sl ([.ref (a 24), .int p0]) ++ List.replicate (3 - (lg_sl ([.ref (a 24), .int p0])).length) Slot.unset).toArray = ls at hl ⊢
  have hl : lv_has ls 3 [(0, .ref (a 24)), (1, .int p0)] := hl
  refine lv_bipush (v := 24) hx hb dX9_appendFour_0 (by decide) ?_
  refine lv_istore_n (lv' := [(2, .int 24), (0, .ref (a 24)), (1, .int p0)]) hx hb dX9_appendFour_2 rfl hl (by decide) rfl (fun ls hl => ?_)
  refine lv_iload_n hx hb dX9_appendFour_3 rfl (lv_at hl 0 rfl) ?_
  refine lv_if_lt (tgt := 39) hx hb dX9_appendFour_4 (by decide) (fun c9_ => absurd c9_ (by decide)) (fun _ => ?_)
  refine lv_aload_n hx hb dX9_appendFour_7 rfl (lv_at hl 1 rfl) ?_
  refine va_get (D := (dC, dI)) (ci := 9) (v := .ref (a 25)) (C := RX9) (T := TX9) (N := 15) hx hb hts i_X9_appendFour_X9 hown hK hP 0 rfl rfl 1 (by decide) (hts _ m_X9_appendFour_0) (fun _ h9 => h9) rfl dX9_appendFour_8 ?_
  refine lv_aload_n hx hb dX9_appendFour_11 rfl (lv_at hl 1 rfl) ?_
  refine va_get (D := (dC, dI)) (ci := 9) (v := .int 8) (C := RX9) (T := TX9) (N := 15) hx hb hts i_X9_appendFour_X9 hown hK hP 0 rfl rfl 2 (by decide) (hts _ m_X9_appendFour_1) (fun _ h9 => h9) rfl dX9_appendFour_12 ?_
  refine lv_iload_n hx hb dX9_appendFour_15 rfl (lv_at hl 2 rfl) ?_
  refine lv_iload_n hx hb dX9_appendFour_16 rfl (lv_at hl 0 rfl) ?_
  refine lv_ishr hx hb dX9_appendFour_17 ?_
  refine lv_sipush (v := 255) hx hb dX9_appendFour_18 (by decide) ?_
  refine lv_iand hx hb dX9_appendFour_21 ?_
  refine va_iast hx hb hK hP hD hS 1 0 rfl rfl (show ¬ ((8 : Int32) < 0 ∨ 400 ≤ Int32.toNatClampNeg 8) by decide) dX9_appendFour_22 (fun H locs hP hD hS => ?_)
  refine lv_aload_n hx hb dX9_appendFour_23 rfl (lv_at hl 1 rfl) ?_
  refine lv_dup hx hb dX9_appendFour_24 rfl ?_
  refine va_get (D := (dC, dI)) (ci := 9) (v := .int 8) (C := RX9) (T := TX9) (N := 15) hx hb hts i_X9_appendFour_X9 hown hK hP 0 rfl rfl 2 (by decide) (hts _ m_X9_appendFour_1) (fun _ h9 => h9) rfl dX9_appendFour_25 ?_
  refine lv_iconst (v := 1) hx hb dX9_appendFour_28 (by decide) ?_
  refine lv_iadd hx hb dX9_appendFour_29 ?_
  refine tk_i 9 (by decide) ?_
  refine va_put (D := (dC, dI)) (ci := 9) (v := .int 9) (ty := .int) (C := RX9) (T := TX9) (N := 15) hx hb hts i_X9_appendFour_X9 tyX9 tyX9_ok nmX9 hown hK hP hD hS 0 rfl rfl 2 (by decide) (hts _ m_X9_appendFour_1) (fun _ h9 => h9) rfl (by decide +kernel) rfl rfl (Nat.le_of_ble_eq_true rfl) dX9_appendFour_30 (fun H locs hP hD hS => ?_)
  refine lv_iinc (v := 16) (lv' := [(2, .int 16), (0, .ref (a 24)), (1, .int p0)]) hx hb dX9_appendFour_33 hl (k := 0) rfl (by decide) (by decide) rfl (fun ls hl => ?_)
  refine lv_goto (tgt := 3) hx hb dX9_appendFour_36 (by decide) ?_
  refine lv_iload_n hx hb dX9_appendFour_3 rfl (lv_at hl 0 rfl) ?_
  refine lv_if_lt (tgt := 39) hx hb dX9_appendFour_4 (by decide) (fun c9_ => absurd c9_ (by decide)) (fun _ => ?_)
  refine lv_aload_n hx hb dX9_appendFour_7 rfl (lv_at hl 1 rfl) ?_
  refine va_get (D := (dC, dI)) (ci := 9) (v := .ref (a 25)) (C := RX9) (T := TX9) (N := 15) hx hb hts i_X9_appendFour_X9 hown hK hP 0 rfl rfl 1 (by decide) (hts _ m_X9_appendFour_0) (fun _ h9 => h9) rfl dX9_appendFour_8 ?_
  refine lv_aload_n hx hb dX9_appendFour_11 rfl (lv_at hl 1 rfl) ?_
  refine va_get (D := (dC, dI)) (ci := 9) (v := .int 9) (C := RX9) (T := TX9) (N := 15) hx hb hts i_X9_appendFour_X9 hown hK hP 0 rfl rfl 2 (by decide) (hts _ m_X9_appendFour_1) (fun _ h9 => h9) rfl dX9_appendFour_12 ?_
  refine lv_iload_n hx hb dX9_appendFour_15 rfl (lv_at hl 2 rfl) ?_
  refine lv_iload_n hx hb dX9_appendFour_16 rfl (lv_at hl 0 rfl) ?_
  refine lv_ishr hx hb dX9_appendFour_17 ?_
  refine lv_sipush (v := 255) hx hb dX9_appendFour_18 (by decide) ?_
  refine lv_iand hx hb dX9_appendFour_21 ?_
  refine va_iast hx hb hK hP hD hS 1 0 rfl rfl (show ¬ ((9 : Int32) < 0 ∨ 400 ≤ Int32.toNatClampNeg 9) by decide) dX9_appendFour_22 (fun H locs hP hD hS => ?_)
  refine lv_aload_n hx hb dX9_appendFour_23 rfl (lv_at hl 1 rfl) ?_
  refine lv_dup hx hb dX9_appendFour_24 rfl ?_
  refine va_get (D := (dC, dI)) (ci := 9) (v := .int 9) (C := RX9) (T := TX9) (N := 15) hx hb hts i_X9_appendFour_X9 hown hK hP 0 rfl rfl 2 (by decide) (hts _ m_X9_appendFour_1) (fun _ h9 => h9) rfl dX9_appendFour_25 ?_
  refine lv_iconst (v := 1) hx hb dX9_appendFour_28 (by decide) ?_
  refine lv_iadd hx hb dX9_appendFour_29 ?_
  refine tk_i 10 (by decide) ?_
  refine va_put (D := (dC, dI)) (ci := 9) (v := .int 10) (ty := .int) (C := RX9) (T := TX9) (N := 15) hx hb hts i_X9_appendFour_X9 tyX9 tyX9_ok nmX9 hown hK hP hD hS 0 rfl rfl 2 (by decide) (hts _ m_X9_appendFour_1) (fun _ h9 => h9) rfl (by decide +kernel) rfl rfl (Nat.le_of_ble_eq_true rfl) dX9_appendFour_30 (fun H locs hP hD hS => ?_)
  refine lv_iinc (v := 8) (lv' := [(2, .int 8), (0, .ref (a 24)), (1, .int p0)]) hx hb dX9_appendFour_33 hl (k := 0) rfl (by decide) (by decide) rfl (fun ls hl => ?_)
  refine lv_goto (tgt := 3) hx hb dX9_appendFour_36 (by decide) ?_
  refine lv_iload_n hx hb dX9_appendFour_3 rfl (lv_at hl 0 rfl) ?_
  refine lv_if_lt (tgt := 39) hx hb dX9_appendFour_4 (by decide) (fun c9_ => absurd c9_ (by decide)) (fun _ => ?_)
  refine lv_aload_n hx hb dX9_appendFour_7 rfl (lv_at hl 1 rfl) ?_
  refine va_get (D := (dC, dI)) (ci := 9) (v := .ref (a 25)) (C := RX9) (T := TX9) (N := 15) hx hb hts i_X9_appendFour_X9 hown hK hP 0 rfl rfl 1 (by decide) (hts _ m_X9_appendFour_0) (fun _ h9 => h9) rfl dX9_appendFour_8 ?_
  refine lv_aload_n hx hb dX9_appendFour_11 rfl (lv_at hl 1 rfl) ?_
  refine va_get (D := (dC, dI)) (ci := 9) (v := .int 10) (C := RX9) (T := TX9) (N := 15) hx hb hts i_X9_appendFour_X9 hown hK hP 0 rfl rfl 2 (by decide) (hts _ m_X9_appendFour_1) (fun _ h9 => h9) rfl dX9_appendFour_12 ?_
  refine lv_iload_n hx hb dX9_appendFour_15 rfl (lv_at hl 2 rfl) ?_
  refine lv_iload_n hx hb dX9_appendFour_16 rfl (lv_at hl 0 rfl) ?_
  refine lv_ishr hx hb dX9_appendFour_17 ?_
  refine lv_sipush (v := 255) hx hb dX9_appendFour_18 (by decide) ?_
  refine lv_iand hx hb dX9_appendFour_21 ?_
  refine va_iast hx hb hK hP hD hS 1 0 rfl rfl (show ¬ ((10 : Int32) < 0 ∨ 400 ≤ Int32.toNatClampNeg 10) by decide) dX9_appendFour_22 (fun H locs hP hD hS => ?_)
  refine lv_aload_n hx hb dX9_appendFour_23 rfl (lv_at hl 1 rfl) ?_
  refine lv_dup hx hb dX9_appendFour_24 rfl ?_
  refine va_get (D := (dC, dI)) (ci := 9) (v := .int 10) (C := RX9) (T := TX9) (N := 15) hx hb hts i_X9_appendFour_X9 hown hK hP 0 rfl rfl 2 (by decide) (hts _ m_X9_appendFour_1) (fun _ h9 => h9) rfl dX9_appendFour_25 ?_
  refine lv_iconst (v := 1) hx hb dX9_appendFour_28 (by decide) ?_
  refine lv_iadd hx hb dX9_appendFour_29 ?_
  refine tk_i 11 (by decide) ?_
  refine va_put (D := (dC, dI)) (ci := 9) (v := .int 11) (ty := .int) (C := RX9) (T := TX9) (N := 15) hx hb hts i_X9_appendFour_X9 tyX9 tyX9_ok nmX9 hown hK hP hD hS 0 rfl rfl 2 (by decide) (hts _ m_X9_appendFour_1) (fun _ h9 => h9) rfl (by decide +kernel) rfl rfl (Nat.le_of_ble_eq_true rfl) dX9_appendFour_30 (fun H locs hP hD hS => ?_)
  refine lv_iinc (v := 0) (lv' := [(2, .int 0), (0, .ref (a 24)), (1, .int p0)]) hx hb dX9_appendFour_33 hl (k := 0) rfl (by decide) (by decide) rfl (fun ls hl => ?_)
  refine lv_goto (tgt := 3) hx hb dX9_appendFour_36 (by decide) ?_
  refine lv_iload_n hx hb dX9_appendFour_3 rfl (lv_at hl 0 rfl) ?_
  refine lv_if_lt (tgt := 39) hx hb dX9_appendFour_4 (by decide) (fun c9_ => absurd c9_ (by decide)) (fun _ => ?_)
  refine lv_aload_n hx hb dX9_appendFour_7 rfl (lv_at hl 1 rfl) ?_
  refine va_get (D := (dC, dI)) (ci := 9) (v := .ref (a 25)) (C := RX9) (T := TX9) (N := 15) hx hb hts i_X9_appendFour_X9 hown hK hP 0 rfl rfl 1 (by decide) (hts _ m_X9_appendFour_0) (fun _ h9 => h9) rfl dX9_appendFour_8 ?_
  refine lv_aload_n hx hb dX9_appendFour_11 rfl (lv_at hl 1 rfl) ?_
  refine va_get (D := (dC, dI)) (ci := 9) (v := .int 11) (C := RX9) (T := TX9) (N := 15) hx hb hts i_X9_appendFour_X9 hown hK hP 0 rfl rfl 2 (by decide) (hts _ m_X9_appendFour_1) (fun _ h9 => h9) rfl dX9_appendFour_12 ?_
  refine lv_iload_n hx hb dX9_appendFour_15 rfl (lv_at hl 2 rfl) ?_
  refine lv_iload_n hx hb dX9_appendFour_16 rfl (lv_at hl 0 rfl) ?_
  refine lv_ishr hx hb dX9_appendFour_17 ?_
  refine lv_sipush (v := 255) hx hb dX9_appendFour_18 (by decide) ?_
  refine lv_iand hx hb dX9_appendFour_21 ?_
  refine va_iast hx hb hK hP hD hS 1 0 rfl rfl (show ¬ ((11 : Int32) < 0 ∨ 400 ≤ Int32.toNatClampNeg 11) by decide) dX9_appendFour_22 (fun H locs hP hD hS => ?_)
  refine lv_aload_n hx hb dX9_appendFour_23 rfl (lv_at hl 1 rfl) ?_
  refine lv_dup hx hb dX9_appendFour_24 rfl ?_
  refine va_get (D := (dC, dI)) (ci := 9) (v := .int 11) (C := RX9) (T := TX9) (N := 15) hx hb hts i_X9_appendFour_X9 hown hK hP 0 rfl rfl 2 (by decide) (hts _ m_X9_appendFour_1) (fun _ h9 => h9) rfl dX9_appendFour_25 ?_
  refine lv_iconst (v := 1) hx hb dX9_appendFour_28 (by decide) ?_
  refine lv_iadd hx hb dX9_appendFour_29 ?_
  refine tk_i 12 (by decide) ?_
  refine va_put (D := (dC, dI)) (ci := 9) (v := .int 12) (ty := .int) (C := RX9) (T := TX9) (N := 15) hx hb hts i_X9_appendFour_X9 tyX9 tyX9_ok nmX9 hown hK hP hD hS 0 rfl rfl 2 (by decide) (hts _ m_X9_appendFour_1) (fun _ h9 => h9) rfl (by decide +kernel) rfl rfl (Nat.le_of_ble_eq_true rfl) dX9_appendFour_30 (fun H locs hP hD hS => ?_)
  refine lv_iinc (v := (-8)) (lv' := [(2, .int (-8)), (0, .ref (a 24)), (1, .int p0)]) hx hb dX9_appendFour_33 hl (k := 0) rfl (by decide) (by decide) rfl (fun ls hl => ?_)
  refine lv_goto (tgt := 3) hx hb dX9_appendFour_36 (by decide) ?_
  refine lv_iload_n hx hb dX9_appendFour_3 rfl (lv_at hl 0 rfl) ?_
  refine lv_if_lt (tgt := 39) hx hb dX9_appendFour_4 (by decide) (fun _ => ?_) (fun c9_ => absurd (by decide) c9_)
  have hP9 := hP.sub (ws' := [(a 24, .inr (9, [.ref (a 21), .ref (a 25), .int 12, .int 0, .int 0, .int (-1), .int 0, .ref (a 26), .ref (a 27), .int 0, .ref (a 63), .ref (a 64), .int 0, .int 0, .int 0])), (a 25, .inl (cy 0, 400, .inl (upd (upd (upd (upd f 8 ((p0 >>> (24 &&& 31)) &&& 255)) 9 ((p0 >>> (16 &&& 31)) &&& 255)) 10 ((p0 >>> (8 &&& 31)) &&& 255)) 11 ((p0 >>> (0 &&& 31)) &&& 255))))]) [0, 1] rfl
  have hD9 := hD.sub (ws' := [(a 24, .inr (9, [.ref (a 21), .ref (a 25), .int 12, .int 0, .int 0, .int (-1), .int 0, .ref (a 26), .ref (a 27), .int 0, .ref (a 63), .ref (a 64), .int 0, .int 0, .int 0])), (a 25, .inl (cy 0, 400, .inl (upd (upd (upd (upd f 8 ((p0 >>> (24 &&& 31)) &&& 255)) 9 ((p0 >>> (16 &&& 31)) &&& 255)) 10 ((p0 >>> (8 &&& 31)) &&& 255)) 11 ((p0 >>> (0 &&& 31)) &&& 255))))]) [0, 1] (by decide) rfl
  exact W.vret hx hb hr (fun t ht hW => ⟨⟨((fun k => [].getD k 0, fun k => [(upd (upd (upd (upd f 8 ((p0 >>> (24 &&& 31)) &&& 255)) 9 ((p0 >>> (16 &&& 31)) &&& 255)) 10 ((p0 >>> (8 &&& 31)) &&& 255)) 11 ((p0 >>> (0 &&& 31)) &&& 255))].getD k (fun _ => 0), fun k => [].getD k (fun _ => none)) : uS), rfl, trivial, (by rw [ht]; exact hP9), hD9⟩, hS.F ht⟩) hS.2.2 dX9_appendFour_39

set_option maxHeartbeats 4000000 in
set_option maxRecDepth 100000 in
theorem c_X9_appendFour_12 (l : Launch) (dC : Nat → ClassId) (dI : Nat → Nat → Nat) (cy : Nat → ClassId) (a : Nat → Nat) (g : Nat → Nat → Option Nat) (f : Nat → Int32) (sz : Nat) (p0 : Int32) : Met l yX9_appendFour v_X9_appendFour ({ frames := 0, cells := 0, slots := 0, locals := 0 }) (va_Pc [.ref (a 24), .int p0] (ps dC dI cy ([(a 24, .inr (9, [.ref (a 21), .ref (a 25), .int 12, .int 0, .int 0, .int (-1), .int 0, .ref (a 26), .ref (a 27), .int 0, .ref (a 63), .ref (a 64), .int 0, .int 0, .int 0])), (a 25, .inl (cy 0, 400, .inl f))]) sz)) (va_Qv (fun (_ : uS) => True) (fun (u : uS) (t : State) => va_P (dC, dI) vwCl ([(a 24, .inr (9, [.ref (a 21), .ref (a 25), .int 16, .int 0, .int 0, .int (-1), .int 0, .ref (a 26), .ref (a 27), .int 0, .ref (a 63), .ref (a 64), .int 0, .int 0, .int 0])), (a 25, .inl (cy 0, 400, .inl (u.2.1 0)))]) t.heap ∧ va_D (va_A ([(a 24, .inr (9, [.ref (a 21), .ref (a 25), .int 12, .int 0, .int 0, .int (-1), .int 0, .ref (a 26), .ref (a 27), .int 0, .ref (a 63), .ref (a 64), .int 0, .int 0, .int 0])), (a 25, .inl (cy 0, 400, .inl f))]) sz) ([(a 24, .inr (9, [.ref (a 21), .ref (a 25), .int 16, .int 0, .int 0, .int (-1), .int 0, .ref (a 26), .ref (a 27), .int 0, .ref (a 63), .ref (a 64), .int 0, .int 0, .int 0])), (a 25, .inl (cy 0, 400, .inl (u.2.1 0)))])) (va_A ([(a 24, .inr (9, [.ref (a 21), .ref (a 25), .int 12, .int 0, .int 0, .int (-1), .int 0, .ref (a 26), .ref (a 27), .int 0, .ref (a 63), .ref (a 64), .int 0, .int 0, .int 0])), (a 25, .inl (cy 0, 400, .inl f))]) sz)) 0 0 (va_A ([(a 24, .inr (9, [.ref (a 21), .ref (a 25), .int 12, .int 0, .int 0, .int (-1), .int 0, .ref (a 26), .ref (a 27), .int 0, .ref (a 63), .ref (a 64), .int 0, .int 0, .int 0])), (a 25, .inl (cy 0, 400, .inl f))]) sz) := by
  refine Met.ofW (cc := cX9_appendFour) (maxL := 3) (ret := none) (by decide) rfl ?_
  intro p e s m args below meth c s₁ B hml hv
  obtain ⟨rfl, hsz, hP, hC, hD0⟩ := hv
  have hK := hC.1
  have hx := B.exec
  have hb := B.bytes
  have hr := B.returns
  have hts := atoms_spec (ws := v_X9_appendFour) B.pre
  have hown : s.vm.findClass RX9 = some m.cls := findClass_of_methodNamed B.named
  have hlocks := B.notSynchronized
  subst hsz
  have hD := hD0.self (sz := s.heap.size)
  generalize hAe : va_A ([(a 24, .inr (9, [.ref (a 21), .ref (a 25), .int 12, .int 0, .int 0, .int (-1), .int 0, .ref (a 26), .ref (a 27), .int 0, .ref (a 63), .ref (a 64), .int 0, .int 0, .int 0])), (a 25, .inl (cy 0, 400, .inl f))]) s.heap.size = A at hD ⊢
  have hA : ∀ q : Nat, s.heap.size ≤ q → A q := fun q h => by rw [← hAe]; exact Or.inr h
  have hS : va_S A s.heap s.heap [] := va_S.rf
  have hl := lv_entry ([.ref (a 24), .int p0]) (n := 3) (Nat.le_of_ble_eq_true rfl)
  rw [lg_entry_eq]
  generalize (lg_sl ([.ref (a 24), .int p0]) ++ List.replicate (3 - (lg_sl ([.ref (a 24), .int p0])).length) Slot.unset).toArray = ls at hl ⊢
  have hl : lv_has ls 3 [(0, .ref (a 24)), (1, .int p0)] := hl
  refine lv_bipush (v := 24) hx hb dX9_appendFour_0 (by decide) ?_
  refine lv_istore_n (lv' := [(2, .int 24), (0, .ref (a 24)), (1, .int p0)]) hx hb dX9_appendFour_2 rfl hl (by decide) rfl (fun ls hl => ?_)
  refine lv_iload_n hx hb dX9_appendFour_3 rfl (lv_at hl 0 rfl) ?_
  refine lv_if_lt (tgt := 39) hx hb dX9_appendFour_4 (by decide) (fun c9_ => absurd c9_ (by decide)) (fun _ => ?_)
  refine lv_aload_n hx hb dX9_appendFour_7 rfl (lv_at hl 1 rfl) ?_
  refine va_get (D := (dC, dI)) (ci := 9) (v := .ref (a 25)) (C := RX9) (T := TX9) (N := 15) hx hb hts i_X9_appendFour_X9 hown hK hP 0 rfl rfl 1 (by decide) (hts _ m_X9_appendFour_0) (fun _ h9 => h9) rfl dX9_appendFour_8 ?_
  refine lv_aload_n hx hb dX9_appendFour_11 rfl (lv_at hl 1 rfl) ?_
  refine va_get (D := (dC, dI)) (ci := 9) (v := .int 12) (C := RX9) (T := TX9) (N := 15) hx hb hts i_X9_appendFour_X9 hown hK hP 0 rfl rfl 2 (by decide) (hts _ m_X9_appendFour_1) (fun _ h9 => h9) rfl dX9_appendFour_12 ?_
  refine lv_iload_n hx hb dX9_appendFour_15 rfl (lv_at hl 2 rfl) ?_
  refine lv_iload_n hx hb dX9_appendFour_16 rfl (lv_at hl 0 rfl) ?_
  refine lv_ishr hx hb dX9_appendFour_17 ?_
  refine lv_sipush (v := 255) hx hb dX9_appendFour_18 (by decide) ?_
  refine lv_iand hx hb dX9_appendFour_21 ?_
  refine va_iast hx hb hK hP hD hS 1 0 rfl rfl (show ¬ ((12 : Int32) < 0 ∨ 400 ≤ Int32.toNatClampNeg 12) by decide) dX9_appendFour_22 (fun H locs hP hD hS => ?_)
  refine lv_aload_n hx hb dX9_appendFour_23 rfl (lv_at hl 1 rfl) ?_
  refine lv_dup hx hb dX9_appendFour_24 rfl ?_
  refine va_get (D := (dC, dI)) (ci := 9) (v := .int 12) (C := RX9) (T := TX9) (N := 15) hx hb hts i_X9_appendFour_X9 hown hK hP 0 rfl rfl 2 (by decide) (hts _ m_X9_appendFour_1) (fun _ h9 => h9) rfl dX9_appendFour_25 ?_
  refine lv_iconst (v := 1) hx hb dX9_appendFour_28 (by decide) ?_
  refine lv_iadd hx hb dX9_appendFour_29 ?_
  refine tk_i 13 (by decide) ?_
  refine va_put (D := (dC, dI)) (ci := 9) (v := .int 13) (ty := .int) (C := RX9) (T := TX9) (N := 15) hx hb hts i_X9_appendFour_X9 tyX9 tyX9_ok nmX9 hown hK hP hD hS 0 rfl rfl 2 (by decide) (hts _ m_X9_appendFour_1) (fun _ h9 => h9) rfl (by decide +kernel) rfl rfl (Nat.le_of_ble_eq_true rfl) dX9_appendFour_30 (fun H locs hP hD hS => ?_)
  refine lv_iinc (v := 16) (lv' := [(2, .int 16), (0, .ref (a 24)), (1, .int p0)]) hx hb dX9_appendFour_33 hl (k := 0) rfl (by decide) (by decide) rfl (fun ls hl => ?_)
  refine lv_goto (tgt := 3) hx hb dX9_appendFour_36 (by decide) ?_
  refine lv_iload_n hx hb dX9_appendFour_3 rfl (lv_at hl 0 rfl) ?_
  refine lv_if_lt (tgt := 39) hx hb dX9_appendFour_4 (by decide) (fun c9_ => absurd c9_ (by decide)) (fun _ => ?_)
  refine lv_aload_n hx hb dX9_appendFour_7 rfl (lv_at hl 1 rfl) ?_
  refine va_get (D := (dC, dI)) (ci := 9) (v := .ref (a 25)) (C := RX9) (T := TX9) (N := 15) hx hb hts i_X9_appendFour_X9 hown hK hP 0 rfl rfl 1 (by decide) (hts _ m_X9_appendFour_0) (fun _ h9 => h9) rfl dX9_appendFour_8 ?_
  refine lv_aload_n hx hb dX9_appendFour_11 rfl (lv_at hl 1 rfl) ?_
  refine va_get (D := (dC, dI)) (ci := 9) (v := .int 13) (C := RX9) (T := TX9) (N := 15) hx hb hts i_X9_appendFour_X9 hown hK hP 0 rfl rfl 2 (by decide) (hts _ m_X9_appendFour_1) (fun _ h9 => h9) rfl dX9_appendFour_12 ?_
  refine lv_iload_n hx hb dX9_appendFour_15 rfl (lv_at hl 2 rfl) ?_
  refine lv_iload_n hx hb dX9_appendFour_16 rfl (lv_at hl 0 rfl) ?_
  refine lv_ishr hx hb dX9_appendFour_17 ?_
  refine lv_sipush (v := 255) hx hb dX9_appendFour_18 (by decide) ?_
  refine lv_iand hx hb dX9_appendFour_21 ?_
  refine va_iast hx hb hK hP hD hS 1 0 rfl rfl (show ¬ ((13 : Int32) < 0 ∨ 400 ≤ Int32.toNatClampNeg 13) by decide) dX9_appendFour_22 (fun H locs hP hD hS => ?_)
  refine lv_aload_n hx hb dX9_appendFour_23 rfl (lv_at hl 1 rfl) ?_
  refine lv_dup hx hb dX9_appendFour_24 rfl ?_
  refine va_get (D := (dC, dI)) (ci := 9) (v := .int 13) (C := RX9) (T := TX9) (N := 15) hx hb hts i_X9_appendFour_X9 hown hK hP 0 rfl rfl 2 (by decide) (hts _ m_X9_appendFour_1) (fun _ h9 => h9) rfl dX9_appendFour_25 ?_
  refine lv_iconst (v := 1) hx hb dX9_appendFour_28 (by decide) ?_
  refine lv_iadd hx hb dX9_appendFour_29 ?_
  refine tk_i 14 (by decide) ?_
  refine va_put (D := (dC, dI)) (ci := 9) (v := .int 14) (ty := .int) (C := RX9) (T := TX9) (N := 15) hx hb hts i_X9_appendFour_X9 tyX9 tyX9_ok nmX9 hown hK hP hD hS 0 rfl rfl 2 (by decide) (hts _ m_X9_appendFour_1) (fun _ h9 => h9) rfl (by decide +kernel) rfl rfl (Nat.le_of_ble_eq_true rfl) dX9_appendFour_30 (fun H locs hP hD hS => ?_)
  refine lv_iinc (v := 8) (lv' := [(2, .int 8), (0, .ref (a 24)), (1, .int p0)]) hx hb dX9_appendFour_33 hl (k := 0) rfl (by decide) (by decide) rfl (fun ls hl => ?_)
  refine lv_goto (tgt := 3) hx hb dX9_appendFour_36 (by decide) ?_
  refine lv_iload_n hx hb dX9_appendFour_3 rfl (lv_at hl 0 rfl) ?_
  refine lv_if_lt (tgt := 39) hx hb dX9_appendFour_4 (by decide) (fun c9_ => absurd c9_ (by decide)) (fun _ => ?_)
  refine lv_aload_n hx hb dX9_appendFour_7 rfl (lv_at hl 1 rfl) ?_
  refine va_get (D := (dC, dI)) (ci := 9) (v := .ref (a 25)) (C := RX9) (T := TX9) (N := 15) hx hb hts i_X9_appendFour_X9 hown hK hP 0 rfl rfl 1 (by decide) (hts _ m_X9_appendFour_0) (fun _ h9 => h9) rfl dX9_appendFour_8 ?_
  refine lv_aload_n hx hb dX9_appendFour_11 rfl (lv_at hl 1 rfl) ?_
  refine va_get (D := (dC, dI)) (ci := 9) (v := .int 14) (C := RX9) (T := TX9) (N := 15) hx hb hts i_X9_appendFour_X9 hown hK hP 0 rfl rfl 2 (by decide) (hts _ m_X9_appendFour_1) (fun _ h9 => h9) rfl dX9_appendFour_12 ?_
  refine lv_iload_n hx hb dX9_appendFour_15 rfl (lv_at hl 2 rfl) ?_
  refine lv_iload_n hx hb dX9_appendFour_16 rfl (lv_at hl 0 rfl) ?_
  refine lv_ishr hx hb dX9_appendFour_17 ?_
  refine lv_sipush (v := 255) hx hb dX9_appendFour_18 (by decide) ?_
  refine lv_iand hx hb dX9_appendFour_21 ?_
  refine va_iast hx hb hK hP hD hS 1 0 rfl rfl (show ¬ ((14 : Int32) < 0 ∨ 400 ≤ Int32.toNatClampNeg 14) by decide) dX9_appendFour_22 (fun H locs hP hD hS => ?_)
  refine lv_aload_n hx hb dX9_appendFour_23 rfl (lv_at hl 1 rfl) ?_
  refine lv_dup hx hb dX9_appendFour_24 rfl ?_
  refine va_get (D := (dC, dI)) (ci := 9) (v := .int 14) (C := RX9) (T := TX9) (N := 15) hx hb hts i_X9_appendFour_X9 hown hK hP 0 rfl rfl 2 (by decide) (hts _ m_X9_appendFour_1) (fun _ h9 => h9) rfl dX9_appendFour_25 ?_
  refine lv_iconst (v := 1) hx hb dX9_appendFour_28 (by decide) ?_
  refine lv_iadd hx hb dX9_appendFour_29 ?_
  refine tk_i 15 (by decide) ?_
  refine va_put (D := (dC, dI)) (ci := 9) (v := .int 15) (ty := .int) (C := RX9) (T := TX9) (N := 15) hx hb hts i_X9_appendFour_X9 tyX9 tyX9_ok nmX9 hown hK hP hD hS 0 rfl rfl 2 (by decide) (hts _ m_X9_appendFour_1) (fun _ h9 => h9) rfl (by decide +kernel) rfl rfl (Nat.le_of_ble_eq_true rfl) dX9_appendFour_30 (fun H locs hP hD hS => ?_)
  refine lv_iinc (v := 0) (lv' := [(2, .int 0), (0, .ref (a 24)), (1, .int p0)]) hx hb dX9_appendFour_33 hl (k := 0) rfl (by decide) (by decide) rfl (fun ls hl => ?_)
  refine lv_goto (tgt := 3) hx hb dX9_appendFour_36 (by decide) ?_
  refine lv_iload_n hx hb dX9_appendFour_3 rfl (lv_at hl 0 rfl) ?_
  refine lv_if_lt (tgt := 39) hx hb dX9_appendFour_4 (by decide) (fun c9_ => absurd c9_ (by decide)) (fun _ => ?_)
  refine lv_aload_n hx hb dX9_appendFour_7 rfl (lv_at hl 1 rfl) ?_
  refine va_get (D := (dC, dI)) (ci := 9) (v := .ref (a 25)) (C := RX9) (T := TX9) (N := 15) hx hb hts i_X9_appendFour_X9 hown hK hP 0 rfl rfl 1 (by decide) (hts _ m_X9_appendFour_0) (fun _ h9 => h9) rfl dX9_appendFour_8 ?_
  refine lv_aload_n hx hb dX9_appendFour_11 rfl (lv_at hl 1 rfl) ?_
  refine va_get (D := (dC, dI)) (ci := 9) (v := .int 15) (C := RX9) (T := TX9) (N := 15) hx hb hts i_X9_appendFour_X9 hown hK hP 0 rfl rfl 2 (by decide) (hts _ m_X9_appendFour_1) (fun _ h9 => h9) rfl dX9_appendFour_12 ?_
  refine lv_iload_n hx hb dX9_appendFour_15 rfl (lv_at hl 2 rfl) ?_
  refine lv_iload_n hx hb dX9_appendFour_16 rfl (lv_at hl 0 rfl) ?_
  refine lv_ishr hx hb dX9_appendFour_17 ?_
  refine lv_sipush (v := 255) hx hb dX9_appendFour_18 (by decide) ?_
  refine lv_iand hx hb dX9_appendFour_21 ?_
  refine va_iast hx hb hK hP hD hS 1 0 rfl rfl (show ¬ ((15 : Int32) < 0 ∨ 400 ≤ Int32.toNatClampNeg 15) by decide) dX9_appendFour_22 (fun H locs hP hD hS => ?_)
  refine lv_aload_n hx hb dX9_appendFour_23 rfl (lv_at hl 1 rfl) ?_
  refine lv_dup hx hb dX9_appendFour_24 rfl ?_
  refine va_get (D := (dC, dI)) (ci := 9) (v := .int 15) (C := RX9) (T := TX9) (N := 15) hx hb hts i_X9_appendFour_X9 hown hK hP 0 rfl rfl 2 (by decide) (hts _ m_X9_appendFour_1) (fun _ h9 => h9) rfl dX9_appendFour_25 ?_
  refine lv_iconst (v := 1) hx hb dX9_appendFour_28 (by decide) ?_
  refine lv_iadd hx hb dX9_appendFour_29 ?_
  refine tk_i 16 (by decide) ?_
  refine va_put (D := (dC, dI)) (ci := 9) (v := .int 16) (ty := .int) (C := RX9) (T := TX9) (N := 15) hx hb hts i_X9_appendFour_X9 tyX9 tyX9_ok nmX9 hown hK hP hD hS 0 rfl rfl 2 (by decide) (hts _ m_X9_appendFour_1) (fun _ h9 => h9) rfl (by decide +kernel) rfl rfl (Nat.le_of_ble_eq_true rfl) dX9_appendFour_30 (fun H locs hP hD hS => ?_)
  refine lv_iinc (v := (-8)) (lv' := [(2, .int (-8)), (0, .ref (a 24)), (1, .int p0)]) hx hb dX9_appendFour_33 hl (k := 0) rfl (by decide) (by decide) rfl (fun ls hl => ?_)
  refine lv_goto (tgt := 3) hx hb dX9_appendFour_36 (by decide) ?_
  refine lv_iload_n hx hb dX9_appendFour_3 rfl (lv_at hl 0 rfl) ?_
  refine lv_if_lt (tgt := 39) hx hb dX9_appendFour_4 (by decide) (fun _ => ?_) (fun c9_ => absurd (by decide) c9_)
  have hP9 := hP.sub (ws' := [(a 24, .inr (9, [.ref (a 21), .ref (a 25), .int 16, .int 0, .int 0, .int (-1), .int 0, .ref (a 26), .ref (a 27), .int 0, .ref (a 63), .ref (a 64), .int 0, .int 0, .int 0])), (a 25, .inl (cy 0, 400, .inl (upd (upd (upd (upd f 12 ((p0 >>> (24 &&& 31)) &&& 255)) 13 ((p0 >>> (16 &&& 31)) &&& 255)) 14 ((p0 >>> (8 &&& 31)) &&& 255)) 15 ((p0 >>> (0 &&& 31)) &&& 255))))]) [0, 1] rfl
  have hD9 := hD.sub (ws' := [(a 24, .inr (9, [.ref (a 21), .ref (a 25), .int 16, .int 0, .int 0, .int (-1), .int 0, .ref (a 26), .ref (a 27), .int 0, .ref (a 63), .ref (a 64), .int 0, .int 0, .int 0])), (a 25, .inl (cy 0, 400, .inl (upd (upd (upd (upd f 12 ((p0 >>> (24 &&& 31)) &&& 255)) 13 ((p0 >>> (16 &&& 31)) &&& 255)) 14 ((p0 >>> (8 &&& 31)) &&& 255)) 15 ((p0 >>> (0 &&& 31)) &&& 255))))]) [0, 1] (by decide) rfl
  exact W.vret hx hb hr (fun t ht hW => ⟨⟨((fun k => [].getD k 0, fun k => [(upd (upd (upd (upd f 12 ((p0 >>> (24 &&& 31)) &&& 255)) 13 ((p0 >>> (16 &&& 31)) &&& 255)) 14 ((p0 >>> (8 &&& 31)) &&& 255)) 15 ((p0 >>> (0 &&& 31)) &&& 255))].getD k (fun _ => 0), fun k => [].getD k (fun _ => none)) : uS), rfl, trivial, (by rw [ht]; exact hP9), hD9⟩, hS.F ht⟩) hS.2.2 dX9_appendFour_39

set_option maxHeartbeats 4000000 in
set_option maxRecDepth 100000 in
theorem c_X9_appendFour_16 (l : Launch) (dC : Nat → ClassId) (dI : Nat → Nat → Nat) (cy : Nat → ClassId) (a : Nat → Nat) (g : Nat → Nat → Option Nat) (f : Nat → Int32) (sz : Nat) (p0 : Int32) : Met l yX9_appendFour v_X9_appendFour ({ frames := 0, cells := 0, slots := 0, locals := 0 }) (va_Pc [.ref (a 24), .int p0] (ps dC dI cy ([(a 24, .inr (9, [.ref (a 21), .ref (a 25), .int 16, .int 0, .int 0, .int (-1), .int 0, .ref (a 26), .ref (a 27), .int 0, .ref (a 63), .ref (a 64), .int 0, .int 0, .int 0])), (a 25, .inl (cy 0, 400, .inl f))]) sz)) (va_Qv (fun (_ : uS) => True) (fun (u : uS) (t : State) => va_P (dC, dI) vwCl ([(a 24, .inr (9, [.ref (a 21), .ref (a 25), .int 20, .int 0, .int 0, .int (-1), .int 0, .ref (a 26), .ref (a 27), .int 0, .ref (a 63), .ref (a 64), .int 0, .int 0, .int 0])), (a 25, .inl (cy 0, 400, .inl (u.2.1 0)))]) t.heap ∧ va_D (va_A ([(a 24, .inr (9, [.ref (a 21), .ref (a 25), .int 16, .int 0, .int 0, .int (-1), .int 0, .ref (a 26), .ref (a 27), .int 0, .ref (a 63), .ref (a 64), .int 0, .int 0, .int 0])), (a 25, .inl (cy 0, 400, .inl f))]) sz) ([(a 24, .inr (9, [.ref (a 21), .ref (a 25), .int 20, .int 0, .int 0, .int (-1), .int 0, .ref (a 26), .ref (a 27), .int 0, .ref (a 63), .ref (a 64), .int 0, .int 0, .int 0])), (a 25, .inl (cy 0, 400, .inl (u.2.1 0)))])) (va_A ([(a 24, .inr (9, [.ref (a 21), .ref (a 25), .int 16, .int 0, .int 0, .int (-1), .int 0, .ref (a 26), .ref (a 27), .int 0, .ref (a 63), .ref (a 64), .int 0, .int 0, .int 0])), (a 25, .inl (cy 0, 400, .inl f))]) sz)) 0 0 (va_A ([(a 24, .inr (9, [.ref (a 21), .ref (a 25), .int 16, .int 0, .int 0, .int (-1), .int 0, .ref (a 26), .ref (a 27), .int 0, .ref (a 63), .ref (a 64), .int 0, .int 0, .int 0])), (a 25, .inl (cy 0, 400, .inl f))]) sz) := by
  refine Met.ofW (cc := cX9_appendFour) (maxL := 3) (ret := none) (by decide) rfl ?_
  intro p e s m args below meth c s₁ B hml hv
  obtain ⟨rfl, hsz, hP, hC, hD0⟩ := hv
  have hK := hC.1
  have hx := B.exec
  have hb := B.bytes
  have hr := B.returns
  have hts := atoms_spec (ws := v_X9_appendFour) B.pre
  have hown : s.vm.findClass RX9 = some m.cls := findClass_of_methodNamed B.named
  have hlocks := B.notSynchronized
  subst hsz
  have hD := hD0.self (sz := s.heap.size)
  generalize hAe : va_A ([(a 24, .inr (9, [.ref (a 21), .ref (a 25), .int 16, .int 0, .int 0, .int (-1), .int 0, .ref (a 26), .ref (a 27), .int 0, .ref (a 63), .ref (a 64), .int 0, .int 0, .int 0])), (a 25, .inl (cy 0, 400, .inl f))]) s.heap.size = A at hD ⊢
  have hA : ∀ q : Nat, s.heap.size ≤ q → A q := fun q h => by rw [← hAe]; exact Or.inr h
  have hS : va_S A s.heap s.heap [] := va_S.rf
  have hl := lv_entry ([.ref (a 24), .int p0]) (n := 3) (Nat.le_of_ble_eq_true rfl)
  rw [lg_entry_eq]
  generalize (lg_sl ([.ref (a 24), .int p0]) ++ List.replicate (3 - (lg_sl ([.ref (a 24), .int p0])).length) Slot.unset).toArray = ls at hl ⊢
  have hl : lv_has ls 3 [(0, .ref (a 24)), (1, .int p0)] := hl
  refine lv_bipush (v := 24) hx hb dX9_appendFour_0 (by decide) ?_
  refine lv_istore_n (lv' := [(2, .int 24), (0, .ref (a 24)), (1, .int p0)]) hx hb dX9_appendFour_2 rfl hl (by decide) rfl (fun ls hl => ?_)
  refine lv_iload_n hx hb dX9_appendFour_3 rfl (lv_at hl 0 rfl) ?_
  refine lv_if_lt (tgt := 39) hx hb dX9_appendFour_4 (by decide) (fun c9_ => absurd c9_ (by decide)) (fun _ => ?_)
  refine lv_aload_n hx hb dX9_appendFour_7 rfl (lv_at hl 1 rfl) ?_
  refine va_get (D := (dC, dI)) (ci := 9) (v := .ref (a 25)) (C := RX9) (T := TX9) (N := 15) hx hb hts i_X9_appendFour_X9 hown hK hP 0 rfl rfl 1 (by decide) (hts _ m_X9_appendFour_0) (fun _ h9 => h9) rfl dX9_appendFour_8 ?_
  refine lv_aload_n hx hb dX9_appendFour_11 rfl (lv_at hl 1 rfl) ?_
  refine va_get (D := (dC, dI)) (ci := 9) (v := .int 16) (C := RX9) (T := TX9) (N := 15) hx hb hts i_X9_appendFour_X9 hown hK hP 0 rfl rfl 2 (by decide) (hts _ m_X9_appendFour_1) (fun _ h9 => h9) rfl dX9_appendFour_12 ?_
  refine lv_iload_n hx hb dX9_appendFour_15 rfl (lv_at hl 2 rfl) ?_
  refine lv_iload_n hx hb dX9_appendFour_16 rfl (lv_at hl 0 rfl) ?_
  refine lv_ishr hx hb dX9_appendFour_17 ?_
  refine lv_sipush (v := 255) hx hb dX9_appendFour_18 (by decide) ?_
  refine lv_iand hx hb dX9_appendFour_21 ?_
  refine va_iast hx hb hK hP hD hS 1 0 rfl rfl (show ¬ ((16 : Int32) < 0 ∨ 400 ≤ Int32.toNatClampNeg 16) by decide) dX9_appendFour_22 (fun H locs hP hD hS => ?_)
  refine lv_aload_n hx hb dX9_appendFour_23 rfl (lv_at hl 1 rfl) ?_
  refine lv_dup hx hb dX9_appendFour_24 rfl ?_
  refine va_get (D := (dC, dI)) (ci := 9) (v := .int 16) (C := RX9) (T := TX9) (N := 15) hx hb hts i_X9_appendFour_X9 hown hK hP 0 rfl rfl 2 (by decide) (hts _ m_X9_appendFour_1) (fun _ h9 => h9) rfl dX9_appendFour_25 ?_
  refine lv_iconst (v := 1) hx hb dX9_appendFour_28 (by decide) ?_
  refine lv_iadd hx hb dX9_appendFour_29 ?_
  refine tk_i 17 (by decide) ?_
  refine va_put (D := (dC, dI)) (ci := 9) (v := .int 17) (ty := .int) (C := RX9) (T := TX9) (N := 15) hx hb hts i_X9_appendFour_X9 tyX9 tyX9_ok nmX9 hown hK hP hD hS 0 rfl rfl 2 (by decide) (hts _ m_X9_appendFour_1) (fun _ h9 => h9) rfl (by decide +kernel) rfl rfl (Nat.le_of_ble_eq_true rfl) dX9_appendFour_30 (fun H locs hP hD hS => ?_)
  refine lv_iinc (v := 16) (lv' := [(2, .int 16), (0, .ref (a 24)), (1, .int p0)]) hx hb dX9_appendFour_33 hl (k := 0) rfl (by decide) (by decide) rfl (fun ls hl => ?_)
  refine lv_goto (tgt := 3) hx hb dX9_appendFour_36 (by decide) ?_
  refine lv_iload_n hx hb dX9_appendFour_3 rfl (lv_at hl 0 rfl) ?_
  refine lv_if_lt (tgt := 39) hx hb dX9_appendFour_4 (by decide) (fun c9_ => absurd c9_ (by decide)) (fun _ => ?_)
  refine lv_aload_n hx hb dX9_appendFour_7 rfl (lv_at hl 1 rfl) ?_
  refine va_get (D := (dC, dI)) (ci := 9) (v := .ref (a 25)) (C := RX9) (T := TX9) (N := 15) hx hb hts i_X9_appendFour_X9 hown hK hP 0 rfl rfl 1 (by decide) (hts _ m_X9_appendFour_0) (fun _ h9 => h9) rfl dX9_appendFour_8 ?_
  refine lv_aload_n hx hb dX9_appendFour_11 rfl (lv_at hl 1 rfl) ?_
  refine va_get (D := (dC, dI)) (ci := 9) (v := .int 17) (C := RX9) (T := TX9) (N := 15) hx hb hts i_X9_appendFour_X9 hown hK hP 0 rfl rfl 2 (by decide) (hts _ m_X9_appendFour_1) (fun _ h9 => h9) rfl dX9_appendFour_12 ?_
  refine lv_iload_n hx hb dX9_appendFour_15 rfl (lv_at hl 2 rfl) ?_
  refine lv_iload_n hx hb dX9_appendFour_16 rfl (lv_at hl 0 rfl) ?_
  refine lv_ishr hx hb dX9_appendFour_17 ?_
  refine lv_sipush (v := 255) hx hb dX9_appendFour_18 (by decide) ?_
  refine lv_iand hx hb dX9_appendFour_21 ?_
  refine va_iast hx hb hK hP hD hS 1 0 rfl rfl (show ¬ ((17 : Int32) < 0 ∨ 400 ≤ Int32.toNatClampNeg 17) by decide) dX9_appendFour_22 (fun H locs hP hD hS => ?_)
  refine lv_aload_n hx hb dX9_appendFour_23 rfl (lv_at hl 1 rfl) ?_
  refine lv_dup hx hb dX9_appendFour_24 rfl ?_
  refine va_get (D := (dC, dI)) (ci := 9) (v := .int 17) (C := RX9) (T := TX9) (N := 15) hx hb hts i_X9_appendFour_X9 hown hK hP 0 rfl rfl 2 (by decide) (hts _ m_X9_appendFour_1) (fun _ h9 => h9) rfl dX9_appendFour_25 ?_
  refine lv_iconst (v := 1) hx hb dX9_appendFour_28 (by decide) ?_
  refine lv_iadd hx hb dX9_appendFour_29 ?_
  refine tk_i 18 (by decide) ?_
  refine va_put (D := (dC, dI)) (ci := 9) (v := .int 18) (ty := .int) (C := RX9) (T := TX9) (N := 15) hx hb hts i_X9_appendFour_X9 tyX9 tyX9_ok nmX9 hown hK hP hD hS 0 rfl rfl 2 (by decide) (hts _ m_X9_appendFour_1) (fun _ h9 => h9) rfl (by decide +kernel) rfl rfl (Nat.le_of_ble_eq_true rfl) dX9_appendFour_30 (fun H locs hP hD hS => ?_)
  refine lv_iinc (v := 8) (lv' := [(2, .int 8), (0, .ref (a 24)), (1, .int p0)]) hx hb dX9_appendFour_33 hl (k := 0) rfl (by decide) (by decide) rfl (fun ls hl => ?_)
  refine lv_goto (tgt := 3) hx hb dX9_appendFour_36 (by decide) ?_
  refine lv_iload_n hx hb dX9_appendFour_3 rfl (lv_at hl 0 rfl) ?_
  refine lv_if_lt (tgt := 39) hx hb dX9_appendFour_4 (by decide) (fun c9_ => absurd c9_ (by decide)) (fun _ => ?_)
  refine lv_aload_n hx hb dX9_appendFour_7 rfl (lv_at hl 1 rfl) ?_
  refine va_get (D := (dC, dI)) (ci := 9) (v := .ref (a 25)) (C := RX9) (T := TX9) (N := 15) hx hb hts i_X9_appendFour_X9 hown hK hP 0 rfl rfl 1 (by decide) (hts _ m_X9_appendFour_0) (fun _ h9 => h9) rfl dX9_appendFour_8 ?_
  refine lv_aload_n hx hb dX9_appendFour_11 rfl (lv_at hl 1 rfl) ?_
  refine va_get (D := (dC, dI)) (ci := 9) (v := .int 18) (C := RX9) (T := TX9) (N := 15) hx hb hts i_X9_appendFour_X9 hown hK hP 0 rfl rfl 2 (by decide) (hts _ m_X9_appendFour_1) (fun _ h9 => h9) rfl dX9_appendFour_12 ?_
  refine lv_iload_n hx hb dX9_appendFour_15 rfl (lv_at hl 2 rfl) ?_
  refine lv_iload_n hx hb dX9_appendFour_16 rfl (lv_at hl 0 rfl) ?_
  refine lv_ishr hx hb dX9_appendFour_17 ?_
  refine lv_sipush (v := 255) hx hb dX9_appendFour_18 (by decide) ?_
  refine lv_iand hx hb dX9_appendFour_21 ?_
  refine va_iast hx hb hK hP hD hS 1 0 rfl rfl (show ¬ ((18 : Int32) < 0 ∨ 400 ≤ Int32.toNatClampNeg 18) by decide) dX9_appendFour_22 (fun H locs hP hD hS => ?_)
  refine lv_aload_n hx hb dX9_appendFour_23 rfl (lv_at hl 1 rfl) ?_
  refine lv_dup hx hb dX9_appendFour_24 rfl ?_
  refine va_get (D := (dC, dI)) (ci := 9) (v := .int 18) (C := RX9) (T := TX9) (N := 15) hx hb hts i_X9_appendFour_X9 hown hK hP 0 rfl rfl 2 (by decide) (hts _ m_X9_appendFour_1) (fun _ h9 => h9) rfl dX9_appendFour_25 ?_
  refine lv_iconst (v := 1) hx hb dX9_appendFour_28 (by decide) ?_
  refine lv_iadd hx hb dX9_appendFour_29 ?_
  refine tk_i 19 (by decide) ?_
  refine va_put (D := (dC, dI)) (ci := 9) (v := .int 19) (ty := .int) (C := RX9) (T := TX9) (N := 15) hx hb hts i_X9_appendFour_X9 tyX9 tyX9_ok nmX9 hown hK hP hD hS 0 rfl rfl 2 (by decide) (hts _ m_X9_appendFour_1) (fun _ h9 => h9) rfl (by decide +kernel) rfl rfl (Nat.le_of_ble_eq_true rfl) dX9_appendFour_30 (fun H locs hP hD hS => ?_)
  refine lv_iinc (v := 0) (lv' := [(2, .int 0), (0, .ref (a 24)), (1, .int p0)]) hx hb dX9_appendFour_33 hl (k := 0) rfl (by decide) (by decide) rfl (fun ls hl => ?_)
  refine lv_goto (tgt := 3) hx hb dX9_appendFour_36 (by decide) ?_
  refine lv_iload_n hx hb dX9_appendFour_3 rfl (lv_at hl 0 rfl) ?_
  refine lv_if_lt (tgt := 39) hx hb dX9_appendFour_4 (by decide) (fun c9_ => absurd c9_ (by decide)) (fun _ => ?_)
  refine lv_aload_n hx hb dX9_appendFour_7 rfl (lv_at hl 1 rfl) ?_
  refine va_get (D := (dC, dI)) (ci := 9) (v := .ref (a 25)) (C := RX9) (T := TX9) (N := 15) hx hb hts i_X9_appendFour_X9 hown hK hP 0 rfl rfl 1 (by decide) (hts _ m_X9_appendFour_0) (fun _ h9 => h9) rfl dX9_appendFour_8 ?_
  refine lv_aload_n hx hb dX9_appendFour_11 rfl (lv_at hl 1 rfl) ?_
  refine va_get (D := (dC, dI)) (ci := 9) (v := .int 19) (C := RX9) (T := TX9) (N := 15) hx hb hts i_X9_appendFour_X9 hown hK hP 0 rfl rfl 2 (by decide) (hts _ m_X9_appendFour_1) (fun _ h9 => h9) rfl dX9_appendFour_12 ?_
  refine lv_iload_n hx hb dX9_appendFour_15 rfl (lv_at hl 2 rfl) ?_
  refine lv_iload_n hx hb dX9_appendFour_16 rfl (lv_at hl 0 rfl) ?_
  refine lv_ishr hx hb dX9_appendFour_17 ?_
  refine lv_sipush (v := 255) hx hb dX9_appendFour_18 (by decide) ?_
  refine lv_iand hx hb dX9_appendFour_21 ?_
  refine va_iast hx hb hK hP hD hS 1 0 rfl rfl (show ¬ ((19 : Int32) < 0 ∨ 400 ≤ Int32.toNatClampNeg 19) by decide) dX9_appendFour_22 (fun H locs hP hD hS => ?_)
  refine lv_aload_n hx hb dX9_appendFour_23 rfl (lv_at hl 1 rfl) ?_
  refine lv_dup hx hb dX9_appendFour_24 rfl ?_
  refine va_get (D := (dC, dI)) (ci := 9) (v := .int 19) (C := RX9) (T := TX9) (N := 15) hx hb hts i_X9_appendFour_X9 hown hK hP 0 rfl rfl 2 (by decide) (hts _ m_X9_appendFour_1) (fun _ h9 => h9) rfl dX9_appendFour_25 ?_
  refine lv_iconst (v := 1) hx hb dX9_appendFour_28 (by decide) ?_
  refine lv_iadd hx hb dX9_appendFour_29 ?_
  refine tk_i 20 (by decide) ?_
  refine va_put (D := (dC, dI)) (ci := 9) (v := .int 20) (ty := .int) (C := RX9) (T := TX9) (N := 15) hx hb hts i_X9_appendFour_X9 tyX9 tyX9_ok nmX9 hown hK hP hD hS 0 rfl rfl 2 (by decide) (hts _ m_X9_appendFour_1) (fun _ h9 => h9) rfl (by decide +kernel) rfl rfl (Nat.le_of_ble_eq_true rfl) dX9_appendFour_30 (fun H locs hP hD hS => ?_)
  refine lv_iinc (v := (-8)) (lv' := [(2, .int (-8)), (0, .ref (a 24)), (1, .int p0)]) hx hb dX9_appendFour_33 hl (k := 0) rfl (by decide) (by decide) rfl (fun ls hl => ?_)
  refine lv_goto (tgt := 3) hx hb dX9_appendFour_36 (by decide) ?_
  refine lv_iload_n hx hb dX9_appendFour_3 rfl (lv_at hl 0 rfl) ?_
  refine lv_if_lt (tgt := 39) hx hb dX9_appendFour_4 (by decide) (fun _ => ?_) (fun c9_ => absurd (by decide) c9_)
  have hP9 := hP.sub (ws' := [(a 24, .inr (9, [.ref (a 21), .ref (a 25), .int 20, .int 0, .int 0, .int (-1), .int 0, .ref (a 26), .ref (a 27), .int 0, .ref (a 63), .ref (a 64), .int 0, .int 0, .int 0])), (a 25, .inl (cy 0, 400, .inl (upd (upd (upd (upd f 16 ((p0 >>> (24 &&& 31)) &&& 255)) 17 ((p0 >>> (16 &&& 31)) &&& 255)) 18 ((p0 >>> (8 &&& 31)) &&& 255)) 19 ((p0 >>> (0 &&& 31)) &&& 255))))]) [0, 1] rfl
  have hD9 := hD.sub (ws' := [(a 24, .inr (9, [.ref (a 21), .ref (a 25), .int 20, .int 0, .int 0, .int (-1), .int 0, .ref (a 26), .ref (a 27), .int 0, .ref (a 63), .ref (a 64), .int 0, .int 0, .int 0])), (a 25, .inl (cy 0, 400, .inl (upd (upd (upd (upd f 16 ((p0 >>> (24 &&& 31)) &&& 255)) 17 ((p0 >>> (16 &&& 31)) &&& 255)) 18 ((p0 >>> (8 &&& 31)) &&& 255)) 19 ((p0 >>> (0 &&& 31)) &&& 255))))]) [0, 1] (by decide) rfl
  exact W.vret hx hb hr (fun t ht hW => ⟨⟨((fun k => [].getD k 0, fun k => [(upd (upd (upd (upd f 16 ((p0 >>> (24 &&& 31)) &&& 255)) 17 ((p0 >>> (16 &&& 31)) &&& 255)) 18 ((p0 >>> (8 &&& 31)) &&& 255)) 19 ((p0 >>> (0 &&& 31)) &&& 255))].getD k (fun _ => 0), fun k => [].getD k (fun _ => none)) : uS), rfl, trivial, (by rw [ht]; exact hP9), hD9⟩, hS.F ht⟩) hS.2.2 dX9_appendFour_39

theorem dX9_append_0 : decode cX9_append 0 = .ok (.aload_n 0, 1) := by decide +kernel
theorem dX9_append_1 : decode cX9_append 1 = .ok (.getfield 35, 3) := by decide +kernel
theorem dX9_append_4 : decode cX9_append 4 = .ok (.bipush 20, 2) := by decide +kernel
theorem dX9_append_6 : decode cX9_append 6 = .ok (.iadd, 1) := by decide +kernel
theorem dX9_append_7 : decode cX9_append 7 = .ok (.sipush 400, 3) := by decide +kernel
theorem dX9_append_10 : decode cX9_append 10 = .ok (.if_icmp .le 5, 3) := by decide +kernel
theorem dX9_append_15 : decode cX9_append 15 = .ok (.aload_n 0, 1) := by decide +kernel
theorem dX9_append_16 : decode cX9_append 16 = .ok (.iload_n 1, 1) := by decide +kernel
theorem dX9_append_17 : decode cX9_append 17 = .ok (.invokevirtual 38, 3) := by decide +kernel
theorem dX9_append_20 : decode cX9_append 20 = .ok (.aload_n 0, 1) := by decide +kernel
theorem dX9_append_21 : decode cX9_append 21 = .ok (.iload_n 2, 1) := by decide +kernel
theorem dX9_append_22 : decode cX9_append 22 = .ok (.invokevirtual 38, 3) := by decide +kernel
theorem dX9_append_25 : decode cX9_append 25 = .ok (.aload_n 0, 1) := by decide +kernel
theorem dX9_append_26 : decode cX9_append 26 = .ok (.iload_n 3, 1) := by decide +kernel
theorem dX9_append_27 : decode cX9_append 27 = .ok (.invokevirtual 38, 3) := by decide +kernel
theorem dX9_append_30 : decode cX9_append 30 = .ok (.aload_n 0, 1) := by decide +kernel
theorem dX9_append_31 : decode cX9_append 31 = .ok (.iload 4, 2) := by decide +kernel
theorem dX9_append_33 : decode cX9_append 33 = .ok (.invokevirtual 38, 3) := by decide +kernel
theorem dX9_append_36 : decode cX9_append 36 = .ok (.aload_n 0, 1) := by decide +kernel
theorem dX9_append_37 : decode cX9_append 37 = .ok (.iload 5, 2) := by decide +kernel
theorem dX9_append_39 : decode cX9_append 39 = .ok (.invokevirtual 38, 3) := by decide +kernel
theorem dX9_append_42 : decode cX9_append 42 = .ok (.aload_n 0, 1) := by decide +kernel
theorem dX9_append_43 : decode cX9_append 43 = .ok (.getfield 35, 3) := by decide +kernel
theorem dX9_append_46 : decode cX9_append 46 = .ok (.ireturn, 1) := by decide +kernel
def v_X9_append : List Cond := .code yX9_append cX9_append 6 (some .int) :: ([.fieldLink RX9 35 "RestBoard$Table" "length" "I", .methodLink RX9 38 yX9_appendFour, .instanceMethod yX9_appendFour, .selects RX9 yX9_appendFour yX9_appendFour, .initialized RX9, .code yX9_appendFour cX9_appendFour 3 none, .fieldLink RX9 9 "RestBoard$Table" "tape" "[I"] ++ wsX90)
theorem m_X9_append_0 : (.fieldLink RX9 35 "RestBoard$Table" "length" "I" : Cond) ∈ v_X9_append := List.mem_of_getElem? (i := 1) (by decide +kernel)
theorem i_X9_append_X9 : ∀ w ∈ u_ws RX9 TX9 15, w ∈ v_X9_append := fun w h => List.mem_cons_of_mem _ (List.mem_append_right _ h)
set_option maxRecDepth 100000 in
theorem gg_X9_append_X9_appendFour_38 : GoodIn v_X9_append v_X9_appendFour := goodIn_r _ [6, 7, 1, 8, 9, 10, 11, 12, 13, 14, 15, 16, 17, 18, 19, 20, 21, 22] (by decide +kernel) (by decide +kernel)
set_option maxRecDepth 100000 in
theorem g_X9_append_X9_appendFour_38 : GoodIn v_X9_append (wsV RX9 38 RX9 yX9_appendFour v_X9_appendFour) := goodIn_app (goodIn_r _ [2, 3, 4, 5] (by decide +kernel) (by decide +kernel)) gg_X9_append_X9_appendFour_38
set_option maxHeartbeats 4000000 in
set_option maxRecDepth 100000 in
theorem c_X9_append (l : Launch) (dC : Nat → ClassId) (dI : Nat → Nat → Nat) (cy : Nat → ClassId) (a : Nat → Nat) (g : Nat → Nat → Option Nat) (sz : Nat) (p0 p1 p2 p3 p4 : Int32) : Met l yX9_append v_X9_append ({ frames := 1, cells := 0, slots := 0, locals := 22 }) (va_Pc [.ref (a 24), .int p0, .int p1, .int p2, .int p3, .int p4] (ps dC dI cy ([(a 24, .inr (9, [.ref (a 21), .ref (a 25), .int 0, .int 0, .int 0, .int (-1), .int 0, .ref (a 26), .ref (a 27), .int 0, .ref (a 63), .ref (a 64), .int 0, .int 0, .int 0])), (a 25, .inl (cy 0, 400, .inl (fun _ => 0)))]) sz)) (va_Qi (fun (r : Int32) (_ : Unit) => r = 20) (fun _ _ => True) (va_A ([(a 24, .inr (9, [.ref (a 21), .ref (a 25), .int 0, .int 0, .int 0, .int (-1), .int 0, .ref (a 26), .ref (a 27), .int 0, .ref (a 63), .ref (a 64), .int 0, .int 0, .int 0])), (a 25, .inl (cy 0, 400, .inl (fun _ => 0)))]) sz)) 0 0 (va_A ([(a 24, .inr (9, [.ref (a 21), .ref (a 25), .int 0, .int 0, .int 0, .int (-1), .int 0, .ref (a 26), .ref (a 27), .int 0, .ref (a 63), .ref (a 64), .int 0, .int 0, .int 0])), (a 25, .inl (cy 0, 400, .inl (fun _ => 0)))]) sz) := by
  refine Met.ofW (cc := cX9_append) (maxL := 6) (ret := (some .int)) (by decide) rfl ?_
  intro p e s m args below meth c s₁ B hml hv
  obtain ⟨rfl, hsz, hP, hC, hD0⟩ := hv
  have hK := hC.1
  have hx := B.exec
  have hb := B.bytes
  have hr := B.returns
  have hts := atoms_spec (ws := v_X9_append) B.pre
  have hown : s.vm.findClass RX9 = some m.cls := findClass_of_methodNamed B.named
  have hlocks := B.notSynchronized
  subst hsz
  have hD := hD0.self (sz := s.heap.size)
  generalize hAe : va_A ([(a 24, .inr (9, [.ref (a 21), .ref (a 25), .int 0, .int 0, .int 0, .int (-1), .int 0, .ref (a 26), .ref (a 27), .int 0, .ref (a 63), .ref (a 64), .int 0, .int 0, .int 0])), (a 25, .inl (cy 0, 400, .inl (fun _ => 0)))]) s.heap.size = A at hD ⊢
  have hA : ∀ q : Nat, s.heap.size ≤ q → A q := fun q h => by rw [← hAe]; exact Or.inr h
  have hS : va_S A s.heap s.heap [] := va_S.rf
  have hl := lv_entry ([.ref (a 24), .int p0, .int p1, .int p2, .int p3, .int p4]) (n := 6) (Nat.le_of_ble_eq_true rfl)
  rw [lg_entry_eq]
  generalize (lg_sl ([.ref (a 24), .int p0, .int p1, .int p2, .int p3, .int p4]) ++ List.replicate (6 - (lg_sl ([.ref (a 24), .int p0, .int p1, .int p2, .int p3, .int p4])).length) Slot.unset).toArray = ls at hl ⊢
  have hl : lv_has ls 6 [(0, .ref (a 24)), (1, .int p0), (2, .int p1), (3, .int p2), (4, .int p3), (5, .int p4)] := hl
  refine lv_aload_n hx hb dX9_append_0 rfl (lv_at hl 0 rfl) ?_
  refine va_get (D := (dC, dI)) (ci := 9) (v := .int 0) (C := RX9) (T := TX9) (N := 15) hx hb hts i_X9_append_X9 hown hK hP 0 rfl rfl 2 (by decide) (hts _ m_X9_append_0) (fun _ h9 => h9) rfl dX9_append_1 ?_
  refine lv_bipush (v := 20) hx hb dX9_append_4 (by decide) ?_
  refine lv_iadd hx hb dX9_append_6 ?_
  refine tk_i 20 (by decide) ?_
  refine lv_sipush (v := 400) hx hb dX9_append_7 (by decide) ?_
  refine lv_icmp_le (tgt := 15) hx hb dX9_append_10 (by decide) (fun _ => ?_) (fun c9_ => absurd (by decide) c9_)
  refine lv_aload_n hx hb dX9_append_15 rfl (lv_at hl 0 rfl) ?_
  refine lv_iload_n hx hb dX9_append_16 rfl (lv_at hl 1 rfl) ?_
  have hPc : va_P (dC, dI) vwCl ([(a 24, .inr (9, [.ref (a 21), .ref (a 25), .int 0, .int 0, .int 0, .int (-1), .int 0, .ref (a 26), .ref (a 27), .int 0, .ref (a 63), .ref (a 64), .int 0, .int 0, .int 0])), (a 25, .inl (cy 0, 400, .inl (fun _ => 0)))]) _ := hP.sub [0, 1] rfl
  have hDc := hD.sub (ws' := [(a 24, .inr (9, [.ref (a 21), .ref (a 25), .int 0, .int 0, .int 0, .int (-1), .int 0, .ref (a 26), .ref (a 27), .int 0, .ref (a 63), .ref (a 64), .int 0, .int 0, .int 0])), (a 25, .inl (cy 0, 400, .inl (fun _ => 0)))]) [0, 1] (by decide) rfl
  have hFc := va_free (wc := [(a 24, .inr (9, [.ref (a 21), .ref (a 25), .int 0, .int 0, .int 0, .int (-1), .int 0, .ref (a 26), .ref (a 27), .int 0, .ref (a 63), .ref (a 64), .int 0, .int 0, .int 0])), (a 25, .inl (cy 0, 400, .inl (fun _ => 0)))]) hD hS hA [0, 1] rfl
  refine va_callv (va_runV (As := [.int p0]) (rest := []) ⟨hx, hb, hml, hown, hts⟩ (c_X9_appendFour_0 l dC dI cy a g ((fun _ => 0)) _ p0) (cwV 1 hts g_X9_append_X9_appendFour_38 rfl rfl rfl (by decide +kernel) ⟨Nat.le_of_ble_eq_true rfl, Nat.le_of_ble_eq_true rfl⟩) (pv_ps hC hPc hDc (ci := 9) (q0 := 0) rfl rfl) rfl rfl hl.1 rfl (lv_room (Nat.le_of_ble_eq_true rfl)) dX9_append_17 ⟨Nat.le_of_ble_eq_true rfl, Nat.le_of_ble_eq_true rfl⟩) hS (fun q _ h => hFc q h) hFc (fun u t_ H1 locs ht hvm hw hB hz1 hk1 hS => ?_)
  obtain ⟨u1_, rfl⟩ : ∃ z, z = u := ⟨_, rfl⟩
  obtain ⟨hP1, hD1⟩ := hB
  rw [ht] at hP1
  obtain ⟨hP, hD⟩ := va_join (wr := []) (w1 := [(a 24, .inr (9, [.ref (a 21), .ref (a 25), .int 4, .int 0, .int 0, .int (-1), .int 0, .ref (a 26), .ref (a 27), .int 0, .ref (a 63), .ref (a 64), .int 0, .int 0, .int 0])), (a 25, .inl (cy 0, 400, .inl (u1_.2.1 0)))]) hP hD [0, 1] [] rfl rfl (by decide) (by decide) hk1 hFc hP1 hD1
  generalize H1 = H at hP hS ⊢
  have hP : va_P (dC, dI) vwCl ([(a 24, .inr (9, [.ref (a 21), .ref (a 25), .int 4, .int 0, .int 0, .int (-1), .int 0, .ref (a 26), .ref (a 27), .int 0, .ref (a 63), .ref (a 64), .int 0, .int 0, .int 0])), (a 25, .inl (cy 0, 400, .inl (u1_.2.1 0)))]) H := hP
  have hD : va_D A ([(a 24, .inr (9, [.ref (a 21), .ref (a 25), .int 4, .int 0, .int 0, .int (-1), .int 0, .ref (a 26), .ref (a 27), .int 0, .ref (a 63), .ref (a 64), .int 0, .int 0, .int 0])), (a 25, .inl (cy 0, 400, .inl (u1_.2.1 0)))]) := hD
  refine lv_aload_n hx hb dX9_append_20 rfl (lv_at hl 0 rfl) ?_
  refine lv_iload_n hx hb dX9_append_21 rfl (lv_at hl 2 rfl) ?_
  have hPc : va_P (dC, dI) vwCl ([(a 24, .inr (9, [.ref (a 21), .ref (a 25), .int 4, .int 0, .int 0, .int (-1), .int 0, .ref (a 26), .ref (a 27), .int 0, .ref (a 63), .ref (a 64), .int 0, .int 0, .int 0])), (a 25, .inl (cy 0, 400, .inl (u1_.2.1 0)))]) _ := hP.sub [0, 1] rfl
  have hDc := hD.sub (ws' := [(a 24, .inr (9, [.ref (a 21), .ref (a 25), .int 4, .int 0, .int 0, .int (-1), .int 0, .ref (a 26), .ref (a 27), .int 0, .ref (a 63), .ref (a 64), .int 0, .int 0, .int 0])), (a 25, .inl (cy 0, 400, .inl (u1_.2.1 0)))]) [0, 1] (by decide) rfl
  have hFc := va_free (wc := [(a 24, .inr (9, [.ref (a 21), .ref (a 25), .int 4, .int 0, .int 0, .int (-1), .int 0, .ref (a 26), .ref (a 27), .int 0, .ref (a 63), .ref (a 64), .int 0, .int 0, .int 0])), (a 25, .inl (cy 0, 400, .inl (u1_.2.1 0)))]) hD hS hA [0, 1] rfl
  refine va_callv (va_runV (As := [.int p1]) (rest := []) ⟨hx, hb, hml, hown, hts⟩ (c_X9_appendFour_4 l dC dI cy a g ((u1_.2.1 0)) _ p1) (cwV 1 hts g_X9_append_X9_appendFour_38 rfl rfl rfl (by decide +kernel) ⟨Nat.le_of_ble_eq_true rfl, Nat.le_of_ble_eq_true rfl⟩) (pv_ps hC hPc hDc (ci := 9) (q0 := 0) rfl rfl) rfl rfl hl.1 rfl (lv_room (Nat.le_of_ble_eq_true rfl)) dX9_append_22 ⟨Nat.le_of_ble_eq_true rfl, Nat.le_of_ble_eq_true rfl⟩) hS (fun q _ h => hFc q h) hFc (fun u t_ H1 locs ht hvm hw hB hz1 hk1 hS => ?_)
  obtain ⟨u2_, rfl⟩ : ∃ z, z = u := ⟨_, rfl⟩
  obtain ⟨hP1, hD1⟩ := hB
  rw [ht] at hP1
  obtain ⟨hP, hD⟩ := va_join (wr := []) (w1 := [(a 24, .inr (9, [.ref (a 21), .ref (a 25), .int 8, .int 0, .int 0, .int (-1), .int 0, .ref (a 26), .ref (a 27), .int 0, .ref (a 63), .ref (a 64), .int 0, .int 0, .int 0])), (a 25, .inl (cy 0, 400, .inl (u2_.2.1 0)))]) hP hD [0, 1] [] rfl rfl (by decide) (by decide) hk1 hFc hP1 hD1
  generalize H1 = H at hP hS ⊢
  have hP : va_P (dC, dI) vwCl ([(a 24, .inr (9, [.ref (a 21), .ref (a 25), .int 8, .int 0, .int 0, .int (-1), .int 0, .ref (a 26), .ref (a 27), .int 0, .ref (a 63), .ref (a 64), .int 0, .int 0, .int 0])), (a 25, .inl (cy 0, 400, .inl (u2_.2.1 0)))]) H := hP
  have hD : va_D A ([(a 24, .inr (9, [.ref (a 21), .ref (a 25), .int 8, .int 0, .int 0, .int (-1), .int 0, .ref (a 26), .ref (a 27), .int 0, .ref (a 63), .ref (a 64), .int 0, .int 0, .int 0])), (a 25, .inl (cy 0, 400, .inl (u2_.2.1 0)))]) := hD
  refine lv_aload_n hx hb dX9_append_25 rfl (lv_at hl 0 rfl) ?_
  refine lv_iload_n hx hb dX9_append_26 rfl (lv_at hl 3 rfl) ?_
  have hPc : va_P (dC, dI) vwCl ([(a 24, .inr (9, [.ref (a 21), .ref (a 25), .int 8, .int 0, .int 0, .int (-1), .int 0, .ref (a 26), .ref (a 27), .int 0, .ref (a 63), .ref (a 64), .int 0, .int 0, .int 0])), (a 25, .inl (cy 0, 400, .inl (u2_.2.1 0)))]) _ := hP.sub [0, 1] rfl
  have hDc := hD.sub (ws' := [(a 24, .inr (9, [.ref (a 21), .ref (a 25), .int 8, .int 0, .int 0, .int (-1), .int 0, .ref (a 26), .ref (a 27), .int 0, .ref (a 63), .ref (a 64), .int 0, .int 0, .int 0])), (a 25, .inl (cy 0, 400, .inl (u2_.2.1 0)))]) [0, 1] (by decide) rfl
  have hFc := va_free (wc := [(a 24, .inr (9, [.ref (a 21), .ref (a 25), .int 8, .int 0, .int 0, .int (-1), .int 0, .ref (a 26), .ref (a 27), .int 0, .ref (a 63), .ref (a 64), .int 0, .int 0, .int 0])), (a 25, .inl (cy 0, 400, .inl (u2_.2.1 0)))]) hD hS hA [0, 1] rfl
  refine va_callv (va_runV (As := [.int p2]) (rest := []) ⟨hx, hb, hml, hown, hts⟩ (c_X9_appendFour_8 l dC dI cy a g ((u2_.2.1 0)) _ p2) (cwV 1 hts g_X9_append_X9_appendFour_38 rfl rfl rfl (by decide +kernel) ⟨Nat.le_of_ble_eq_true rfl, Nat.le_of_ble_eq_true rfl⟩) (pv_ps hC hPc hDc (ci := 9) (q0 := 0) rfl rfl) rfl rfl hl.1 rfl (lv_room (Nat.le_of_ble_eq_true rfl)) dX9_append_27 ⟨Nat.le_of_ble_eq_true rfl, Nat.le_of_ble_eq_true rfl⟩) hS (fun q _ h => hFc q h) hFc (fun u t_ H1 locs ht hvm hw hB hz1 hk1 hS => ?_)
  obtain ⟨u3_, rfl⟩ : ∃ z, z = u := ⟨_, rfl⟩
  obtain ⟨hP1, hD1⟩ := hB
  rw [ht] at hP1
  obtain ⟨hP, hD⟩ := va_join (wr := []) (w1 := [(a 24, .inr (9, [.ref (a 21), .ref (a 25), .int 12, .int 0, .int 0, .int (-1), .int 0, .ref (a 26), .ref (a 27), .int 0, .ref (a 63), .ref (a 64), .int 0, .int 0, .int 0])), (a 25, .inl (cy 0, 400, .inl (u3_.2.1 0)))]) hP hD [0, 1] [] rfl rfl (by decide) (by decide) hk1 hFc hP1 hD1
  generalize H1 = H at hP hS ⊢
  have hP : va_P (dC, dI) vwCl ([(a 24, .inr (9, [.ref (a 21), .ref (a 25), .int 12, .int 0, .int 0, .int (-1), .int 0, .ref (a 26), .ref (a 27), .int 0, .ref (a 63), .ref (a 64), .int 0, .int 0, .int 0])), (a 25, .inl (cy 0, 400, .inl (u3_.2.1 0)))]) H := hP
  have hD : va_D A ([(a 24, .inr (9, [.ref (a 21), .ref (a 25), .int 12, .int 0, .int 0, .int (-1), .int 0, .ref (a 26), .ref (a 27), .int 0, .ref (a 63), .ref (a 64), .int 0, .int 0, .int 0])), (a 25, .inl (cy 0, 400, .inl (u3_.2.1 0)))]) := hD
  refine lv_aload_n hx hb dX9_append_30 rfl (lv_at hl 0 rfl) ?_
  refine lv_iload hx hb dX9_append_31 (lv_at hl 4 rfl) ?_
  have hPc : va_P (dC, dI) vwCl ([(a 24, .inr (9, [.ref (a 21), .ref (a 25), .int 12, .int 0, .int 0, .int (-1), .int 0, .ref (a 26), .ref (a 27), .int 0, .ref (a 63), .ref (a 64), .int 0, .int 0, .int 0])), (a 25, .inl (cy 0, 400, .inl (u3_.2.1 0)))]) _ := hP.sub [0, 1] rfl
  have hDc := hD.sub (ws' := [(a 24, .inr (9, [.ref (a 21), .ref (a 25), .int 12, .int 0, .int 0, .int (-1), .int 0, .ref (a 26), .ref (a 27), .int 0, .ref (a 63), .ref (a 64), .int 0, .int 0, .int 0])), (a 25, .inl (cy 0, 400, .inl (u3_.2.1 0)))]) [0, 1] (by decide) rfl
  have hFc := va_free (wc := [(a 24, .inr (9, [.ref (a 21), .ref (a 25), .int 12, .int 0, .int 0, .int (-1), .int 0, .ref (a 26), .ref (a 27), .int 0, .ref (a 63), .ref (a 64), .int 0, .int 0, .int 0])), (a 25, .inl (cy 0, 400, .inl (u3_.2.1 0)))]) hD hS hA [0, 1] rfl
  refine va_callv (va_runV (As := [.int p3]) (rest := []) ⟨hx, hb, hml, hown, hts⟩ (c_X9_appendFour_12 l dC dI cy a g ((u3_.2.1 0)) _ p3) (cwV 1 hts g_X9_append_X9_appendFour_38 rfl rfl rfl (by decide +kernel) ⟨Nat.le_of_ble_eq_true rfl, Nat.le_of_ble_eq_true rfl⟩) (pv_ps hC hPc hDc (ci := 9) (q0 := 0) rfl rfl) rfl rfl hl.1 rfl (lv_room (Nat.le_of_ble_eq_true rfl)) dX9_append_33 ⟨Nat.le_of_ble_eq_true rfl, Nat.le_of_ble_eq_true rfl⟩) hS (fun q _ h => hFc q h) hFc (fun u t_ H1 locs ht hvm hw hB hz1 hk1 hS => ?_)
  obtain ⟨u4_, rfl⟩ : ∃ z, z = u := ⟨_, rfl⟩
  obtain ⟨hP1, hD1⟩ := hB
  rw [ht] at hP1
  obtain ⟨hP, hD⟩ := va_join (wr := []) (w1 := [(a 24, .inr (9, [.ref (a 21), .ref (a 25), .int 16, .int 0, .int 0, .int (-1), .int 0, .ref (a 26), .ref (a 27), .int 0, .ref (a 63), .ref (a 64), .int 0, .int 0, .int 0])), (a 25, .inl (cy 0, 400, .inl (u4_.2.1 0)))]) hP hD [0, 1] [] rfl rfl (by decide) (by decide) hk1 hFc hP1 hD1
  generalize H1 = H at hP hS ⊢
  have hP : va_P (dC, dI) vwCl ([(a 24, .inr (9, [.ref (a 21), .ref (a 25), .int 16, .int 0, .int 0, .int (-1), .int 0, .ref (a 26), .ref (a 27), .int 0, .ref (a 63), .ref (a 64), .int 0, .int 0, .int 0])), (a 25, .inl (cy 0, 400, .inl (u4_.2.1 0)))]) H := hP
  have hD : va_D A ([(a 24, .inr (9, [.ref (a 21), .ref (a 25), .int 16, .int 0, .int 0, .int (-1), .int 0, .ref (a 26), .ref (a 27), .int 0, .ref (a 63), .ref (a 64), .int 0, .int 0, .int 0])), (a 25, .inl (cy 0, 400, .inl (u4_.2.1 0)))]) := hD
  refine lv_aload_n hx hb dX9_append_36 rfl (lv_at hl 0 rfl) ?_
  refine lv_iload hx hb dX9_append_37 (lv_at hl 5 rfl) ?_
  have hPc : va_P (dC, dI) vwCl ([(a 24, .inr (9, [.ref (a 21), .ref (a 25), .int 16, .int 0, .int 0, .int (-1), .int 0, .ref (a 26), .ref (a 27), .int 0, .ref (a 63), .ref (a 64), .int 0, .int 0, .int 0])), (a 25, .inl (cy 0, 400, .inl (u4_.2.1 0)))]) _ := hP.sub [0, 1] rfl
  have hDc := hD.sub (ws' := [(a 24, .inr (9, [.ref (a 21), .ref (a 25), .int 16, .int 0, .int 0, .int (-1), .int 0, .ref (a 26), .ref (a 27), .int 0, .ref (a 63), .ref (a 64), .int 0, .int 0, .int 0])), (a 25, .inl (cy 0, 400, .inl (u4_.2.1 0)))]) [0, 1] (by decide) rfl
  have hFc := va_free (wc := [(a 24, .inr (9, [.ref (a 21), .ref (a 25), .int 16, .int 0, .int 0, .int (-1), .int 0, .ref (a 26), .ref (a 27), .int 0, .ref (a 63), .ref (a 64), .int 0, .int 0, .int 0])), (a 25, .inl (cy 0, 400, .inl (u4_.2.1 0)))]) hD hS hA [0, 1] rfl
  refine va_callv (va_runV (As := [.int p4]) (rest := []) ⟨hx, hb, hml, hown, hts⟩ (c_X9_appendFour_16 l dC dI cy a g ((u4_.2.1 0)) _ p4) (cwV 1 hts g_X9_append_X9_appendFour_38 rfl rfl rfl (by decide +kernel) ⟨Nat.le_of_ble_eq_true rfl, Nat.le_of_ble_eq_true rfl⟩) (pv_ps hC hPc hDc (ci := 9) (q0 := 0) rfl rfl) rfl rfl hl.1 rfl (lv_room (Nat.le_of_ble_eq_true rfl)) dX9_append_39 ⟨Nat.le_of_ble_eq_true rfl, Nat.le_of_ble_eq_true rfl⟩) hS (fun q _ h => hFc q h) hFc (fun u t_ H1 locs ht hvm hw hB hz1 hk1 hS => ?_)
  obtain ⟨u5_, rfl⟩ : ∃ z, z = u := ⟨_, rfl⟩
  obtain ⟨hP1, hD1⟩ := hB
  rw [ht] at hP1
  obtain ⟨hP, hD⟩ := va_join (wr := []) (w1 := [(a 24, .inr (9, [.ref (a 21), .ref (a 25), .int 20, .int 0, .int 0, .int (-1), .int 0, .ref (a 26), .ref (a 27), .int 0, .ref (a 63), .ref (a 64), .int 0, .int 0, .int 0])), (a 25, .inl (cy 0, 400, .inl (u5_.2.1 0)))]) hP hD [0, 1] [] rfl rfl (by decide) (by decide) hk1 hFc hP1 hD1
  generalize H1 = H at hP hS ⊢
  have hP : va_P (dC, dI) vwCl ([(a 24, .inr (9, [.ref (a 21), .ref (a 25), .int 20, .int 0, .int 0, .int (-1), .int 0, .ref (a 26), .ref (a 27), .int 0, .ref (a 63), .ref (a 64), .int 0, .int 0, .int 0])), (a 25, .inl (cy 0, 400, .inl (u5_.2.1 0)))]) H := hP
  have hD : va_D A ([(a 24, .inr (9, [.ref (a 21), .ref (a 25), .int 20, .int 0, .int 0, .int (-1), .int 0, .ref (a 26), .ref (a 27), .int 0, .ref (a 63), .ref (a 64), .int 0, .int 0, .int 0])), (a 25, .inl (cy 0, 400, .inl (u5_.2.1 0)))]) := hD
  refine lv_aload_n hx hb dX9_append_42 rfl (lv_at hl 0 rfl) ?_
  refine va_get (D := (dC, dI)) (ci := 9) (v := .int 20) (C := RX9) (T := TX9) (N := 15) hx hb hts i_X9_append_X9 hown hK hP 0 rfl rfl 2 (by decide) (hts _ m_X9_append_0) (fun _ h9 => h9) rfl dX9_append_43 ?_
  exact W.iret (v := 20) hx hb hr (fun t ht hW => ⟨⟨20, (), rfl, rfl, trivial⟩, hS.F ht⟩) hS.2.2 dX9_append_46

theorem dX11_feed_0 : decode cX11_feed 0 = .ok (.aload_n 0, 1) := by decide +kernel
theorem dX11_feed_1 : decode cX11_feed 1 = .ok (.getfield 33, 3) := by decide +kernel
theorem dX11_feed_4 : decode cX11_feed 4 = .ok (.iload_n 1, 1) := by decide +kernel
theorem dX11_feed_5 : decode cX11_feed 5 = .ok (.iload_n 2, 1) := by decide +kernel
theorem dX11_feed_6 : decode cX11_feed 6 = .ok (.iload_n 3, 1) := by decide +kernel
theorem dX11_feed_7 : decode cX11_feed 7 = .ok (.iload 4, 2) := by decide +kernel
theorem dX11_feed_9 : decode cX11_feed 9 = .ok (.iload 5, 2) := by decide +kernel
theorem dX11_feed_11 : decode cX11_feed 11 = .ok (.invokevirtual 77, 3) := by decide +kernel
theorem dX11_feed_14 : decode cX11_feed 14 = .ok (.ireturn, 1) := by decide +kernel
def v_X11_feed : List Cond := .code yX11_feed cX11_feed 6 (some .int) :: ([.fieldLink RX11 33 "RestBoard" "table" "LRestBoard$Table;", .methodLink RX11 77 yX9_append, .instanceMethod yX9_append, .selects RX9 yX9_append yX9_append, .initialized RX9, .code yX9_append cX9_append 6 (some .int), .fieldLink RX9 35 "RestBoard$Table" "length" "I", .methodLink RX9 38 yX9_appendFour, .instanceMethod yX9_appendFour, .selects RX9 yX9_appendFour yX9_appendFour, .code yX9_appendFour cX9_appendFour 3 none, .fieldLink RX9 9 "RestBoard$Table" "tape" "[I"] ++ wsX110 ++ wsX90)
theorem m_X11_feed_0 : (.fieldLink RX11 33 "RestBoard" "table" "LRestBoard$Table;" : Cond) ∈ v_X11_feed := List.mem_of_getElem? (i := 1) (by decide +kernel)
theorem i_X11_feed_X11 : ∀ w ∈ u_ws RX11 TX11 11, w ∈ v_X11_feed := fun w h => List.mem_cons_of_mem _ (List.mem_append_left _ (List.mem_append_right _ h))
set_option maxRecDepth 100000 in
theorem gg_X11_feed_X9_append_77 : GoodIn v_X11_feed v_X9_append := goodIn_r _ [6, 7, 8, 9, 10, 5, 11, 12, 24, 25, 26, 27, 28, 29, 30, 31, 32, 33, 34, 35, 36, 37, 38] (by decide +kernel) (by decide +kernel)
set_option maxRecDepth 100000 in
theorem g_X11_feed_X9_append_77 : GoodIn v_X11_feed (wsV RX11 77 RX9 yX9_append v_X9_append) := goodIn_app (goodIn_r _ [2, 3, 4, 5] (by decide +kernel) (by decide +kernel)) gg_X11_feed_X9_append_77
set_option maxHeartbeats 4000000 in
set_option maxRecDepth 100000 in
theorem c_X11_feed (l : Launch) (dC : Nat → ClassId) (dI : Nat → Nat → Nat) (cy : Nat → ClassId) (a : Nat → Nat) (g : Nat → Nat → Option Nat) (sz : Nat) (p0 p1 p2 p3 p4 : Int32) : Met l yX11_feed v_X11_feed ({ frames := 2, cells := 0, slots := 0, locals := 47 }) (va_Pc [.ref (a 0), .int p0, .int p1, .int p2, .int p3, .int p4] (ps dC dI cy (fw a cy g) sz)) (va_Qi (fun (r : Int32) (_ : Unit) => r = 20) (fun _ _ => True) (va_A (fw a cy g) sz)) 0 0 (va_A (fw a cy g) sz) := by
  refine Met.ofW (cc := cX11_feed) (maxL := 6) (ret := (some .int)) (by decide) rfl ?_
  intro p e s m args below meth c s₁ B hml hv
  obtain ⟨rfl, hsz, hP, hC, hD0⟩ := hv
  have hK := hC.1
  have hx := B.exec
  have hb := B.bytes
  have hr := B.returns
  have hts := atoms_spec (ws := v_X11_feed) B.pre
  have hown : s.vm.findClass RX11 = some m.cls := findClass_of_methodNamed B.named
  have hlocks := B.notSynchronized
  subst hsz
  have hD := hD0.self (sz := s.heap.size)
  generalize hAe : va_A (fw a cy g) s.heap.size = A at hD ⊢
  have hA : ∀ q : Nat, s.heap.size ≤ q → A q := fun q h => by rw [← hAe]; exact Or.inr h
  have hS : va_S A s.heap s.heap [] := va_S.rf
  have hl := lv_entry ([.ref (a 0), .int p0, .int p1, .int p2, .int p3, .int p4]) (n := 6) (Nat.le_of_ble_eq_true rfl)
  rw [lg_entry_eq]
  generalize (lg_sl ([.ref (a 0), .int p0, .int p1, .int p2, .int p3, .int p4]) ++ List.replicate (6 - (lg_sl ([.ref (a 0), .int p0, .int p1, .int p2, .int p3, .int p4])).length) Slot.unset).toArray = ls at hl ⊢
  have hl : lv_has ls 6 [(0, .ref (a 0)), (1, .int p0), (2, .int p1), (3, .int p2), (4, .int p3), (5, .int p4)] := hl
  refine lv_aload_n hx hb dX11_feed_0 rfl (lv_at hl 0 rfl) ?_
  refine va_get (D := (dC, dI)) (ci := 11) (v := .ref (a 24)) (C := RX11) (T := TX11) (N := 11) hx hb hts i_X11_feed_X11 hown hK hP 0 rfl rfl 3 (by decide) (hts _ m_X11_feed_0) (fun _ h9 => h9) rfl dX11_feed_1 ?_
  refine lv_iload_n hx hb dX11_feed_4 rfl (lv_at hl 1 rfl) ?_
  refine lv_iload_n hx hb dX11_feed_5 rfl (lv_at hl 2 rfl) ?_
  refine lv_iload_n hx hb dX11_feed_6 rfl (lv_at hl 3 rfl) ?_
  refine lv_iload hx hb dX11_feed_7 (lv_at hl 4 rfl) ?_
  refine lv_iload hx hb dX11_feed_9 (lv_at hl 5 rfl) ?_
  have hPc : va_P (dC, dI) vwCl ([(a 24, .inr (9, [.ref (a 21), .ref (a 25), .int 0, .int 0, .int 0, .int (-1), .int 0, .ref (a 26), .ref (a 27), .int 0, .ref (a 63), .ref (a 64), .int 0, .int 0, .int 0])), (a 25, .inl (cy 0, 400, .inl (fun _ => 0)))]) _ := hP.sub [24, 25] rfl
  have hDc := hD.sub (ws' := [(a 24, .inr (9, [.ref (a 21), .ref (a 25), .int 0, .int 0, .int 0, .int (-1), .int 0, .ref (a 26), .ref (a 27), .int 0, .ref (a 63), .ref (a 64), .int 0, .int 0, .int 0])), (a 25, .inl (cy 0, 400, .inl (fun _ => 0)))]) [24, 25] (by decide) rfl
  have hFc := va_free (wc := [(a 24, .inr (9, [.ref (a 21), .ref (a 25), .int 0, .int 0, .int 0, .int (-1), .int 0, .ref (a 26), .ref (a 27), .int 0, .ref (a 63), .ref (a 64), .int 0, .int 0, .int 0])), (a 25, .inl (cy 0, 400, .inl (fun _ => 0)))]) hD hS hA [24, 25] rfl
  refine va_calli (va_runV (As := [.int p0, .int p1, .int p2, .int p3, .int p4]) (rest := []) ⟨hx, hb, hml, hown, hts⟩ (c_X9_append l dC dI cy a g _ p0 p1 p2 p3 p4) (cwV 5 hts g_X11_feed_X9_append_77 rfl rfl rfl (by decide +kernel) ⟨Nat.le_of_ble_eq_true rfl, Nat.le_of_ble_eq_true rfl⟩) (pv_ps hC hPc hDc (ci := 9) (q0 := 0) rfl rfl) rfl rfl hl.1 rfl (lv_room (Nat.le_of_ble_eq_true rfl)) dX11_feed_11 ⟨Nat.le_of_ble_eq_true rfl, Nat.le_of_ble_eq_true rfl⟩) hS (fun q _ h => hFc q h) hFc (fun r_ u t_ H1 locs ht hvm hw hB hz1 hk1 hS => ?_)
  obtain ⟨hP, hD⟩ := va_join (wr := []) (w1 := []) hP hD [24, 25] [] rfl rfl (by decide) (by decide) hk1 hFc va_P0 va_D0
  generalize H1 = H at hP hS ⊢
  have hP : va_P (dC, dI) vwCl ([]) H := hP
  have hD : va_D A ([]) := hD
  subst hw
  exact W.iret (v := 20) hx hb hr (fun t ht hW => ⟨⟨20, (), rfl, rfl, trivial⟩, hS.F ht⟩) hS.2.2 dX11_feed_14

