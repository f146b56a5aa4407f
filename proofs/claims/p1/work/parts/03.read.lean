theorem dX10_has_0 : decode cX10_has 0 = .ok (.iload_n 1, 1) := by decide +kernel
theorem dX10_has_1 : decode cX10_has 1 = .ok (.ifCond .lt 18, 3) := by decide +kernel
theorem dX10_has_4 : decode cX10_has 4 = .ok (.iload_n 1, 1) := by decide +kernel
theorem dX10_has_5 : decode cX10_has 5 = .ok (.aload_n 0, 1) := by decide +kernel
theorem dX10_has_6 : decode cX10_has 6 = .ok (.getfield 17, 3) := by decide +kernel
theorem dX10_has_9 : decode cX10_has 9 = .ok (.getfield 26, 3) := by decide +kernel
theorem dX10_has_12 : decode cX10_has 12 = .ok (.if_icmp .ge 7, 3) := by decide +kernel
theorem dX10_has_15 : decode cX10_has 15 = .ok (.iconst 1, 1) := by decide +kernel
theorem dX10_has_16 : decode cX10_has 16 = .ok (.goto 4, 3) := by decide +kernel
theorem dX10_has_19 : decode cX10_has 19 = .ok (.iconst 0, 1) := by decide +kernel
theorem dX10_has_20 : decode cX10_has 20 = .ok (.ireturn, 1) := by decide +kernel
def v_X10_has : List Cond := .code yX10_has cX10_has 2 (some .boolean) :: ([.fieldLink RX10 17 "RestBoard$Tree" "now" "LRestBoard$State;", .fieldLink RX10 26 "RestBoard$State" "size" "I"] ++ wsX100 ++ wsX80)
theorem m_X10_has_0 : (.fieldLink RX10 17 "RestBoard$Tree" "now" "LRestBoard$State;" : Cond) ∈ v_X10_has := List.mem_of_getElem? (i := 1) (by decide +kernel)
theorem m_X10_has_1 : (.fieldLink RX10 26 "RestBoard$State" "size" "I" : Cond) ∈ v_X10_has := List.mem_of_getElem? (i := 2) (by decide +kernel)
theorem i_X10_has_X10 : ∀ w ∈ u_ws RX10 TX10 2, w ∈ v_X10_has := fun w h => List.mem_cons_of_mem _ (List.mem_append_left _ (List.mem_append_right _ h))
theorem i_X10_has_X8 : ∀ w ∈ u_ws RX8 TX8 17, w ∈ v_X10_has := fun w h => List.mem_cons_of_mem _ (List.mem_append_right _ h)
set_option maxHeartbeats 4000000 in
set_option maxRecDepth 100000 in
theorem c_X10_has (l : Launch) (dC : Nat → ClassId) (dI : Nat → Nat → Nat) (cy : Nat → ClassId) (a : Nat → Nat) (g : Nat → Nat → Option Nat) (p0 : Int32) : Met l yX10_has v_X10_has ({ frames := 0, cells := 0, slots := 0, locals := 0 }) (va_Pc [.ref (a 21), .int p0] (pp dC dI cy (fw a cy g))) (va_Qi (fun (r : Int32) (_ : Unit) => ((p0 < 0) ∧ r = 0) ∨ ((¬ p0 < 0) ∧ ((1 : Int32) ≤ p0) ∧ r = 0) ∨ ((p0 = 0) ∧ r = 1)) (fun _ _ => True) (fun _ => False)) 0 0 (fun _ => False) := by
  refine Met.ofW (cc := cX10_has) (maxL := 2) (ret := (some .boolean)) (by decide) rfl ?_
  intro p e s m args below meth c s₁ B hml hv
  obtain ⟨rfl, hP, hC⟩ := hv
  have hK := hC.1
  have hx := B.exec
  have hb := B.bytes
  have hr := B.returns
  have hts := atoms_spec (ws := v_X10_has) B.pre
  have hown : s.vm.findClass RX10 = some m.cls := findClass_of_methodNamed B.named
  have hlocks := B.notSynchronized
  have hS : va_S (fun _ => False) s.heap s.heap [] := va_S.rf
  have hl := lv_entry ([.ref (a 21), .int p0]) (n := 2) (Nat.le_of_ble_eq_true rfl)
  rw [lg_entry_eq]
  generalize (lg_sl ([.ref (a 21), .int p0]) ++ List.replicate (2 - (lg_sl ([.ref (a 21), .int p0])).length) Slot.unset).toArray = ls at hl ⊢
  have hl : lv_has ls 2 [(0, .ref (a 21)), (1, .int p0)] := hl
  refine lv_iload_n hx hb dX10_has_0 rfl (lv_at hl 1 rfl) ?_
  refine lv_if_lt (tgt := 19) hx hb dX10_has_1 (by decide) (fun c1_ => ?_) (fun c1_ => ?_)
  · skip
    refine lv_iconst (v := 0) hx hb dX10_has_19 (by decide) ?_
    exact W.zret (v := 0) (ty := .boolean) hx hb hr rfl (fun t ht hW => ⟨⟨0, (), rfl, Or.inl (⟨c1_, rfl⟩), trivial⟩, hS.F ht⟩) hS.2.2 dX10_has_20
  · skip
    refine lv_iload_n hx hb dX10_has_4 rfl (lv_at hl 1 rfl) ?_
    refine lv_aload_n hx hb dX10_has_5 rfl (lv_at hl 0 rfl) ?_
    refine va_get (D := (dC, dI)) (ci := 10) (v := .ref (a 1)) (C := RX10) (T := TX10) (N := 2) hx hb hts i_X10_has_X10 hown hK hP 21 rfl rfl 1 (by decide) (hts _ m_X10_has_0) (fun _ h9 => h9) rfl dX10_has_6 ?_
    refine va_get (D := (dC, dI)) (ci := 8) (v := .int 1) (C := RX8) (T := TX8) (N := 17) hx hb hts i_X10_has_X8 hown hK hP 1 rfl rfl 0 (by decide) (hts _ m_X10_has_1) (fun _ h9 => h9) rfl dX10_has_9 ?_
    refine lv_icmp_ge (tgt := 19) hx hb dX10_has_12 (by decide) (fun c2_ => ?_) (fun c2_ => ?_)
    · skip
      refine lv_iconst (v := 0) hx hb dX10_has_19 (by decide) ?_
      exact W.zret (v := 0) (ty := .boolean) hx hb hr rfl (fun t ht hW => ⟨⟨0, (), rfl, Or.inr (Or.inl (⟨c1_, c2_, rfl⟩)), trivial⟩, hS.F ht⟩) hS.2.2 dX10_has_20
    · skip
      have e3_ : p0 = 0 := by
        have z0_ := tz_nlt_r c1_ (show (0 : Int32).toInt = 0 by decide)
        have z1_ := tz_nle_l c2_ (show (1 : Int32).toInt = 1 by decide)
        exact tz_pin (show (0 : Int32).toInt = 0 by decide) (by omega)
      subst e3_
      refine lv_iconst (v := 1) hx hb dX10_has_15 (by decide) ?_
      refine lv_goto (tgt := 20) hx hb dX10_has_16 (by decide) ?_
      exact W.zret (v := 1) (ty := .boolean) hx hb hr rfl (fun t ht hW => ⟨⟨1, (), rfl, Or.inr (Or.inr (⟨rfl, rfl⟩)), trivial⟩, hS.F ht⟩) hS.2.2 dX10_has_20

theorem dX10_is_0 : decode cX10_is 0 = .ok (.aload_n 0, 1) := by decide +kernel
theorem dX10_is_1 : decode cX10_is 1 = .ok (.iload_n 1, 1) := by decide +kernel
theorem dX10_is_2 : decode cX10_is 2 = .ok (.invokevirtual 32, 3) := by decide +kernel
theorem dX10_is_5 : decode cX10_is 5 = .ok (.ifCond .eq 20, 3) := by decide +kernel
theorem dX10_is_8 : decode cX10_is 8 = .ok (.aload_n 0, 1) := by decide +kernel
theorem dX10_is_9 : decode cX10_is 9 = .ok (.getfield 11, 3) := by decide +kernel
theorem dX10_is_12 : decode cX10_is 12 = .ok (.iload_n 1, 1) := by decide +kernel
theorem dX10_is_13 : decode cX10_is 13 = .ok (.aaload, 1) := by decide +kernel
theorem dX10_is_14 : decode cX10_is 14 = .ok (.getfield 36, 3) := by decide +kernel
theorem dX10_is_17 : decode cX10_is 17 = .ok (.iload_n 2, 1) := by decide +kernel
theorem dX10_is_18 : decode cX10_is 18 = .ok (.if_icmp .ne 7, 3) := by decide +kernel
theorem dX10_is_21 : decode cX10_is 21 = .ok (.iconst 1, 1) := by decide +kernel
theorem dX10_is_22 : decode cX10_is 22 = .ok (.goto 4, 3) := by decide +kernel
theorem dX10_is_25 : decode cX10_is 25 = .ok (.iconst 0, 1) := by decide +kernel
theorem dX10_is_26 : decode cX10_is 26 = .ok (.ireturn, 1) := by decide +kernel
def v_X10_is : List Cond := .code yX10_is cX10_is 3 (some .boolean) :: ([.fieldLink RX10 11 "RestBoard$Tree" "nodes" "[LRestBoard$Node;", .fieldLink RX10 36 "RestBoard$Node" "kind" "I", .methodLink RX10 32 yX10_has, .instanceMethod yX10_has, .selects RX10 yX10_has yX10_has, .initialized RX10, .code yX10_has cX10_has 2 (some .boolean), .fieldLink RX10 17 "RestBoard$Tree" "now" "LRestBoard$State;", .fieldLink RX10 26 "RestBoard$State" "size" "I"] ++ wsX100 ++ wsX40 ++ wsX80)
theorem m_X10_is_0 : (.fieldLink RX10 11 "RestBoard$Tree" "nodes" "[LRestBoard$Node;" : Cond) ∈ v_X10_is := List.mem_of_getElem? (i := 1) (by decide +kernel)
theorem m_X10_is_1 : (.fieldLink RX10 36 "RestBoard$Node" "kind" "I" : Cond) ∈ v_X10_is := List.mem_of_getElem? (i := 2) (by decide +kernel)
theorem i_X10_is_X10 : ∀ w ∈ u_ws RX10 TX10 2, w ∈ v_X10_is := fun w h => List.mem_cons_of_mem _ (List.mem_append_left _ (List.mem_append_left _ (List.mem_append_right _ h)))
theorem i_X10_is_X4 : ∀ w ∈ u_ws RX4 TX4 14, w ∈ v_X10_is := fun w h => List.mem_cons_of_mem _ (List.mem_append_left _ (List.mem_append_right _ h))
set_option maxRecDepth 100000 in
theorem gg_X10_is_X10_has_32 : GoodIn v_X10_is v_X10_has := goodIn_r _ [7, 8, 9, 10, 11, 26, 27, 28, 29, 30, 31, 32, 33, 34, 35, 36, 37, 38, 39, 40, 41, 42] (by decide +kernel) (by decide +kernel)
set_option maxRecDepth 100000 in
theorem g_X10_is_X10_has_32 : GoodIn v_X10_is (wsV RX10 32 RX10 yX10_has v_X10_has) := goodIn_app (goodIn_r _ [3, 4, 5, 6] (by decide +kernel) (by decide +kernel)) gg_X10_is_X10_has_32
set_option maxHeartbeats 4000000 in
set_option maxRecDepth 100000 in
theorem c_X10_is (l : Launch) (dC : Nat → ClassId) (dI : Nat → Nat → Nat) (cy : Nat → ClassId) (a : Nat → Nat) (g : Nat → Nat → Option Nat) (p0 p1 : Int32) : Met l yX10_is v_X10_is ({ frames := 1, cells := 0, slots := 0, locals := 21 }) (va_Pc [.ref (a 21), .int p0, .int p1] (pp dC dI cy (fw a cy g))) (va_Qi (fun (r : Int32) (_ : Unit) => ((p0 < 0) ∧ r = 0) ∨ ((¬ p0 < 0) ∧ ((1 : Int32) ≤ p0) ∧ r = 0) ∨ ((p0 = 0) ∧ (¬ (1 : Int32) = p1) ∧ r = 0) ∨ ((p0 = 0) ∧ (p1 = 1) ∧ r = 1)) (fun _ _ => True) (fun _ => False)) 0 0 (fun _ => False) := by
  refine Met.ofW (cc := cX10_is) (maxL := 3) (ret := (some .boolean)) (by decide) rfl ?_
  intro p e s m args below meth c s₁ B hml hv
  obtain ⟨rfl, hP, hC⟩ := hv
  have hK := hC.1
  have hx := B.exec
  have hb := B.bytes
  have hr := B.returns
  have hts := atoms_spec (ws := v_X10_is) B.pre
  have hown : s.vm.findClass RX10 = some m.cls := findClass_of_methodNamed B.named
  have hlocks := B.notSynchronized
  have hS : va_S (fun _ => False) s.heap s.heap [] := va_S.rf
  have hl := lv_entry ([.ref (a 21), .int p0, .int p1]) (n := 3) (Nat.le_of_ble_eq_true rfl)
  rw [lg_entry_eq]
  generalize (lg_sl ([.ref (a 21), .int p0, .int p1]) ++ List.replicate (3 - (lg_sl ([.ref (a 21), .int p0, .int p1])).length) Slot.unset).toArray = ls at hl ⊢
  have hl : lv_has ls 3 [(0, .ref (a 21)), (1, .int p0), (2, .int p1)] := hl
  refine lv_aload_n hx hb dX10_is_0 rfl (lv_at hl 0 rfl) ?_
  refine lv_iload_n hx hb dX10_is_1 rfl (lv_at hl 1 rfl) ?_
  refine tk_pi (va_runV (As := [.int p0]) (rest := []) ⟨hx, hb, hml, hown, hts⟩ (c_X10_has l dC dI cy a g p0) (cwV 1 hts g_X10_is_X10_has_32 rfl rfl rfl (by decide +kernel) ⟨Nat.le_of_ble_eq_true rfl, Nat.le_of_ble_eq_true rfl⟩) (pv_pp hC hP (ci := 10) (q0 := 21) rfl rfl) rfl rfl hl.1 rfl (lv_room (Nat.le_of_ble_eq_true rfl)) dX10_is_2 ⟨Nat.le_of_ble_eq_true rfl, Nat.le_of_ble_eq_true rfl⟩) hP hS (fun r_ H locs hw hP hS => ?_)
  rcases hw with ⟨c1_, rfl⟩ | ⟨c2_, c3_, rfl⟩ | ⟨c4_, rfl⟩
  · skip
    refine lv_if_eq (tgt := 25) hx hb dX10_is_5 (by decide) (fun _ => ?_) (fun c9_ => absurd (by decide) c9_)
    refine lv_iconst (v := 0) hx hb dX10_is_25 (by decide) ?_
    exact W.zret (v := 0) (ty := .boolean) hx hb hr rfl (fun t ht hW => ⟨⟨0, (), rfl, Or.inl (⟨c1_, rfl⟩), trivial⟩, hS.F ht⟩) hS.2.2 dX10_is_26
  · skip
    refine lv_if_eq (tgt := 25) hx hb dX10_is_5 (by decide) (fun _ => ?_) (fun c9_ => absurd (by decide) c9_)
    refine lv_iconst (v := 0) hx hb dX10_is_25 (by decide) ?_
    exact W.zret (v := 0) (ty := .boolean) hx hb hr rfl (fun t ht hW => ⟨⟨0, (), rfl, Or.inr (Or.inl (⟨c2_, c3_, rfl⟩)), trivial⟩, hS.F ht⟩) hS.2.2 dX10_is_26
  · skip
    subst c4_
    refine lv_if_eq (tgt := 25) hx hb dX10_is_5 (by decide) (fun c9_ => absurd c9_ (by decide)) (fun _ => ?_)
    refine lv_aload_n hx hb dX10_is_8 rfl (lv_at hl 0 rfl) ?_
    refine va_get (D := (dC, dI)) (ci := 10) (v := .ref (a 22)) (C := RX10) (T := TX10) (N := 2) hx hb hts i_X10_is_X10 hown hK hP 21 rfl rfl 0 (by decide) (hts _ m_X10_is_0) (fun _ h9 => h9) rfl dX10_is_9 ?_
    refine lv_iload_n hx hb dX10_is_12 rfl (lv_at hl 1 rfl) ?_
    refine va_aldq hx hb hK hP 22 1 rfl rfl (show ¬ ((0 : Int32) < 0 ∨ 32 ≤ Int32.toNatClampNeg 0) by decide) dX10_is_13 ?_
    refine tk_v (.ref (a 23)) (by rfl) ?_
    refine va_get (D := (dC, dI)) (ci := 4) (v := .int 1) (C := RX4) (T := TX4) (N := 14) hx hb hts i_X10_is_X4 hown hK hP 23 rfl rfl 0 (by decide) (hts _ m_X10_is_1) (fun _ h9 => h9) rfl dX10_is_14 ?_
    refine lv_iload_n hx hb dX10_is_17 rfl (lv_at hl 2 rfl) ?_
    refine lv_icmp_ne (tgt := 25) hx hb dX10_is_18 (by decide) (fun c5_ => ?_) (fun c5_ => ?_)
    · skip
      refine lv_iconst (v := 0) hx hb dX10_is_25 (by decide) ?_
      exact W.zret (v := 0) (ty := .boolean) hx hb hr rfl (fun t ht hW => ⟨⟨0, (), rfl, Or.inr (Or.inr (Or.inl (⟨rfl, c5_, rfl⟩))), trivial⟩, hS.F ht⟩) hS.2.2 dX10_is_26
    · skip
      have e6_ : p1 = 1 := by
        have z0_ := tz_eq_l c5_ (show (1 : Int32).toInt = 1 by decide)
        exact tz_pin (show (1 : Int32).toInt = 1 by decide) (by omega)
      subst e6_
      refine lv_iconst (v := 1) hx hb dX10_is_21 (by decide) ?_
      refine lv_goto (tgt := 26) hx hb dX10_is_22 (by decide) ?_
      exact W.zret (v := 1) (ty := .boolean) hx hb hr rfl (fun t ht hW => ⟨⟨1, (), rfl, Or.inr (Or.inr (Or.inr (⟨rfl, rfl, rfl⟩))), trivial⟩, hS.F ht⟩) hS.2.2 dX10_is_26

theorem dX10_holdsValue_0 : decode cX10_holdsValue 0 = .ok (.aload_n 0, 1) := by decide +kernel
theorem dX10_holdsValue_1 : decode cX10_holdsValue 1 = .ok (.iload_n 1, 1) := by decide +kernel
theorem dX10_holdsValue_2 : decode cX10_holdsValue 2 = .ok (.iconst 4, 1) := by decide +kernel
theorem dX10_holdsValue_3 : decode cX10_holdsValue 3 = .ok (.invokevirtual 39, 3) := by decide +kernel
theorem dX10_holdsValue_6 : decode cX10_holdsValue 6 = .ok (.ifCond .ne 13, 3) := by decide +kernel
theorem dX10_holdsValue_9 : decode cX10_holdsValue 9 = .ok (.aload_n 0, 1) := by decide +kernel
theorem dX10_holdsValue_10 : decode cX10_holdsValue 10 = .ok (.iload_n 1, 1) := by decide +kernel
theorem dX10_holdsValue_11 : decode cX10_holdsValue 11 = .ok (.bipush 6, 2) := by decide +kernel
theorem dX10_holdsValue_13 : decode cX10_holdsValue 13 = .ok (.invokevirtual 39, 3) := by decide +kernel
theorem dX10_holdsValue_16 : decode cX10_holdsValue 16 = .ok (.ifCond .eq 7, 3) := by decide +kernel
theorem dX10_holdsValue_23 : decode cX10_holdsValue 23 = .ok (.iconst 0, 1) := by decide +kernel
theorem dX10_holdsValue_24 : decode cX10_holdsValue 24 = .ok (.ireturn, 1) := by decide +kernel
def v_X10_holdsValue : List Cond := .code yX10_holdsValue cX10_holdsValue 2 (some .boolean) :: ([.methodLink RX10 39 yX10_is, .instanceMethod yX10_is, .selects RX10 yX10_is yX10_is, .initialized RX10, .code yX10_is cX10_is 3 (some .boolean), .fieldLink RX10 11 "RestBoard$Tree" "nodes" "[LRestBoard$Node;", .fieldLink RX10 36 "RestBoard$Node" "kind" "I", .methodLink RX10 32 yX10_has, .instanceMethod yX10_has, .selects RX10 yX10_has yX10_has, .code yX10_has cX10_has 2 (some .boolean), .fieldLink RX10 17 "RestBoard$Tree" "now" "LRestBoard$State;", .fieldLink RX10 26 "RestBoard$State" "size" "I"] ++ wsX100 ++ wsX40 ++ wsX80)
set_option maxRecDepth 100000 in
theorem gg_X10_holdsValue_X10_is_39 : GoodIn v_X10_holdsValue v_X10_is := goodIn_r _ [5, 6, 7, 8, 9, 10, 4, 11, 12, 13, 14, 15, 16, 17, 18, 19, 20, 21, 22, 23, 24, 25, 26, 27, 28, 29, 30, 31, 32, 33, 34, 35, 36, 37, 38, 39, 40, 41, 42, 43, 44, 45, 46] (by decide +kernel) (by decide +kernel)
set_option maxRecDepth 100000 in
theorem g_X10_holdsValue_X10_is_39 : GoodIn v_X10_holdsValue (wsV RX10 39 RX10 yX10_is v_X10_is) := goodIn_app (goodIn_r _ [1, 2, 3, 4] (by decide +kernel) (by decide +kernel)) gg_X10_holdsValue_X10_is_39
set_option maxHeartbeats 4000000 in
set_option maxRecDepth 100000 in
theorem c_X10_holdsValue (l : Launch) (dC : Nat → ClassId) (dI : Nat → Nat → Nat) (cy : Nat → ClassId) (a : Nat → Nat) (g : Nat → Nat → Option Nat) (p0 : Int32) : Met l yX10_holdsValue v_X10_holdsValue ({ frames := 2, cells := 0, slots := 0, locals := 43 }) (va_Pc [.ref (a 21), .int p0] (pp dC dI cy (fw a cy g))) (va_Qi (fun (r : Int32) (_ : Unit) => ((p0 < 0) ∧ r = 0) ∨ ((¬ p0 < 0) ∧ ((1 : Int32) ≤ p0) ∧ r = 0) ∨ ((p0 = 0) ∧ r = 0)) (fun _ _ => True) (fun _ => False)) 0 0 (fun _ => False) := by
  refine Met.ofW (cc := cX10_holdsValue) (maxL := 2) (ret := (some .boolean)) (by decide) rfl ?_
  intro p e s m args below meth c s₁ B hml hv
  obtain ⟨rfl, hP, hC⟩ := hv
  have hK := hC.1
  have hx := B.exec
  have hb := B.bytes
  have hr := B.returns
  have hts := atoms_spec (ws := v_X10_holdsValue) B.pre
  have hown : s.vm.findClass RX10 = some m.cls := findClass_of_methodNamed B.named
  have hlocks := B.notSynchronized
  have hS : va_S (fun _ => False) s.heap s.heap [] := va_S.rf
  have hl := lv_entry ([.ref (a 21), .int p0]) (n := 2) (Nat.le_of_ble_eq_true rfl)
  rw [lg_entry_eq]
  generalize (lg_sl ([.ref (a 21), .int p0]) ++ List.replicate (2 - (lg_sl ([.ref (a 21), .int p0])).length) Slot.unset).toArray = ls at hl ⊢
  have hl : lv_has ls 2 [(0, .ref (a 21)), (1, .int p0)] := hl
  refine lv_aload_n hx hb dX10_holdsValue_0 rfl (lv_at hl 0 rfl) ?_
  refine lv_iload_n hx hb dX10_holdsValue_1 rfl (lv_at hl 1 rfl) ?_
  refine lv_iconst (v := 4) hx hb dX10_holdsValue_2 (by decide) ?_
  refine tk_pi (va_runV (As := [.int p0, .int 4]) (rest := []) ⟨hx, hb, hml, hown, hts⟩ (c_X10_is l dC dI cy a g p0 4) (cwV 2 hts g_X10_holdsValue_X10_is_39 rfl rfl rfl (by decide +kernel) ⟨Nat.le_of_ble_eq_true rfl, Nat.le_of_ble_eq_true rfl⟩) (pv_pp hC hP (ci := 10) (q0 := 21) rfl rfl) rfl rfl hl.1 rfl (lv_room (Nat.le_of_ble_eq_true rfl)) dX10_holdsValue_3 ⟨Nat.le_of_ble_eq_true rfl, Nat.le_of_ble_eq_true rfl⟩) hP hS (fun r_ H locs hw hP hS => ?_)
  rcases hw with ⟨c1_, rfl⟩ | ⟨c2_, c3_, rfl⟩ | ⟨c4_, -, rfl⟩ | ⟨c6_, c7_, rfl⟩
  · skip
    refine lv_if_ne (tgt := 19) hx hb dX10_holdsValue_6 (by decide) (fun c9_ => absurd (by decide) c9_) (fun _ => ?_)
    refine lv_aload_n hx hb dX10_holdsValue_9 rfl (lv_at hl 0 rfl) ?_
    refine lv_iload_n hx hb dX10_holdsValue_10 rfl (lv_at hl 1 rfl) ?_
    refine lv_bipush (v := 6) hx hb dX10_holdsValue_11 (by decide) ?_
    refine tk_pi (va_runV (As := [.int p0, .int 6]) (rest := []) ⟨hx, hb, hml, hown, hts⟩ (c_X10_is l dC dI cy a g p0 6) (cwV 2 hts g_X10_holdsValue_X10_is_39 rfl rfl rfl (by decide +kernel) ⟨Nat.le_of_ble_eq_true rfl, Nat.le_of_ble_eq_true rfl⟩) (pv_pp hC hP (ci := 10) (q0 := 21) rfl rfl) rfl rfl hl.1 rfl (lv_room (Nat.le_of_ble_eq_true rfl)) dX10_holdsValue_13 ⟨Nat.le_of_ble_eq_true rfl, Nat.le_of_ble_eq_true rfl⟩) hP hS (fun r_ H locs hw hP hS => ?_)
    rcases hw with ⟨c8_, rfl⟩ | ⟨c9_, c10_, rfl⟩ | ⟨c11_, -, rfl⟩ | ⟨c13_, c14_, rfl⟩
    · skip
      refine lv_if_eq (tgt := 23) hx hb dX10_holdsValue_16 (by decide) (fun _ => ?_) (fun c9_ => absurd (by decide) c9_)
      refine lv_iconst (v := 0) hx hb dX10_holdsValue_23 (by decide) ?_
      exact W.zret (v := 0) (ty := .boolean) hx hb hr rfl (fun t ht hW => ⟨⟨0, (), rfl, Or.inl (⟨c1_, rfl⟩), trivial⟩, hS.F ht⟩) hS.2.2 dX10_holdsValue_24
    · skip
      exfalso
      have z0_ := tz_lt_r c1_ (show (0 : Int32).toInt = 0 by decide)
      have z1_ := tz_nlt_r c9_ (show (0 : Int32).toInt = 0 by decide)
      omega
    · skip
      exfalso
      have z0_ := tz_lt_r c1_ (show (0 : Int32).toInt = 0 by decide)
      have z1_ := tz_eq_r c11_ (show (0 : Int32).toInt = 0 by decide)
      omega
    · skip
      exact absurd c14_ (by decide)
  · skip
    refine lv_if_ne (tgt := 19) hx hb dX10_holdsValue_6 (by decide) (fun c9_ => absurd (by decide) c9_) (fun _ => ?_)
    refine lv_aload_n hx hb dX10_holdsValue_9 rfl (lv_at hl 0 rfl) ?_
    refine lv_iload_n hx hb dX10_holdsValue_10 rfl (lv_at hl 1 rfl) ?_
    refine lv_bipush (v := 6) hx hb dX10_holdsValue_11 (by decide) ?_
    refine tk_pi (va_runV (As := [.int p0, .int 6]) (rest := []) ⟨hx, hb, hml, hown, hts⟩ (c_X10_is l dC dI cy a g p0 6) (cwV 2 hts g_X10_holdsValue_X10_is_39 rfl rfl rfl (by decide +kernel) ⟨Nat.le_of_ble_eq_true rfl, Nat.le_of_ble_eq_true rfl⟩) (pv_pp hC hP (ci := 10) (q0 := 21) rfl rfl) rfl rfl hl.1 rfl (lv_room (Nat.le_of_ble_eq_true rfl)) dX10_holdsValue_13 ⟨Nat.le_of_ble_eq_true rfl, Nat.le_of_ble_eq_true rfl⟩) hP hS (fun r_ H locs hw hP hS => ?_)
    rcases hw with ⟨c15_, rfl⟩ | ⟨c16_, c17_, rfl⟩ | ⟨c18_, -, rfl⟩ | ⟨c20_, c21_, rfl⟩
    · skip
      exfalso
      have z0_ := tz_nlt_r c2_ (show (0 : Int32).toInt = 0 by decide)
      have z1_ := tz_le_l c3_ (show (1 : Int32).toInt = 1 by decide)
      have z2_ := tz_lt_r c15_ (show (0 : Int32).toInt = 0 by decide)
      omega
    · skip
      refine lv_if_eq (tgt := 23) hx hb dX10_holdsValue_16 (by decide) (fun _ => ?_) (fun c9_ => absurd (by decide) c9_)
      refine lv_iconst (v := 0) hx hb dX10_holdsValue_23 (by decide) ?_
      exact W.zret (v := 0) (ty := .boolean) hx hb hr rfl (fun t ht hW => ⟨⟨0, (), rfl, Or.inr (Or.inl (⟨c2_, c3_, rfl⟩)), trivial⟩, hS.F ht⟩) hS.2.2 dX10_holdsValue_24
    · skip
      exfalso
      have z0_ := tz_nlt_r c2_ (show (0 : Int32).toInt = 0 by decide)
      have z1_ := tz_le_l c3_ (show (1 : Int32).toInt = 1 by decide)
      have z2_ := tz_eq_r c18_ (show (0 : Int32).toInt = 0 by decide)
      omega
    · skip
      exact absurd c21_ (by decide)
  · skip
    subst c4_
    refine lv_if_ne (tgt := 19) hx hb dX10_holdsValue_6 (by decide) (fun c9_ => absurd (by decide) c9_) (fun _ => ?_)
    refine lv_aload_n hx hb dX10_holdsValue_9 rfl (lv_at hl 0 rfl) ?_
    refine lv_iload_n hx hb dX10_holdsValue_10 rfl (lv_at hl 1 rfl) ?_
    refine lv_bipush (v := 6) hx hb dX10_holdsValue_11 (by decide) ?_
    refine tk_pi (va_runV (As := [.int 0, .int 6]) (rest := []) ⟨hx, hb, hml, hown, hts⟩ (c_X10_is l dC dI cy a g 0 6) (cwV 2 hts g_X10_holdsValue_X10_is_39 rfl rfl rfl (by decide +kernel) ⟨Nat.le_of_ble_eq_true rfl, Nat.le_of_ble_eq_true rfl⟩) (pv_pp hC hP (ci := 10) (q0 := 21) rfl rfl) rfl rfl hl.1 rfl (lv_room (Nat.le_of_ble_eq_true rfl)) dX10_holdsValue_13 ⟨Nat.le_of_ble_eq_true rfl, Nat.le_of_ble_eq_true rfl⟩) hP hS (fun r_ H locs hw hP hS => ?_)
    rcases hw with ⟨c22_, rfl⟩ | ⟨-, c24_, rfl⟩ | ⟨-, -, rfl⟩ | ⟨-, c28_, rfl⟩
    · skip
      exact absurd c22_ (by decide)
    · skip
      exact absurd c24_ (by decide)
    · skip
      refine lv_if_eq (tgt := 23) hx hb dX10_holdsValue_16 (by decide) (fun _ => ?_) (fun c9_ => absurd (by decide) c9_)
      refine lv_iconst (v := 0) hx hb dX10_holdsValue_23 (by decide) ?_
      exact W.zret (v := 0) (ty := .boolean) hx hb hr rfl (fun t ht hW => ⟨⟨0, (), rfl, Or.inr (Or.inr (⟨rfl, rfl⟩)), trivial⟩, hS.F ht⟩) hS.2.2 dX10_holdsValue_24
    · skip
      exact absurd c28_ (by decide)
  · skip
    exact absurd c7_ (by decide)

theorem dX10_child_0 : decode cX10_child 0 = .ok (.iconst 1, 1) := by decide +kernel
theorem dX10_child_1 : decode cX10_child 1 = .ok (.istore 4, 2) := by decide +kernel
theorem dX10_child_3 : decode cX10_child 3 = .ok (.iload 4, 2) := by decide +kernel
theorem dX10_child_5 : decode cX10_child 5 = .ok (.iload_n 3, 1) := by decide +kernel
theorem dX10_child_6 : decode cX10_child 6 = .ok (.if_icmp .ge 40, 3) := by decide +kernel
theorem dX10_child_46 : decode cX10_child 46 = .ok (.iconst (-1), 1) := by decide +kernel
theorem dX10_child_47 : decode cX10_child 47 = .ok (.ireturn, 1) := by decide +kernel
def v_X10_child : List Cond := .code yX10_child cX10_child 5 (some .int) :: ([])
set_option maxHeartbeats 4000000 in
set_option maxRecDepth 100000 in
theorem c_X10_child (l : Launch) (dC : Nat → ClassId) (dI : Nat → Nat → Nat) (cy : Nat → ClassId) (a : Nat → Nat) (g : Nat → Nat → Option Nat) (p0 p1 : Int32) : Met l yX10_child v_X10_child ({ frames := 0, cells := 0, slots := 0, locals := 0 }) (va_Pc [.ref (a 21), .int p0, .int p1, .int 1] (pp dC dI cy (fw a cy g))) (va_Qi (fun (r : Int32) (_ : Unit) => r = (-1)) (fun _ _ => True) (fun _ => False)) 0 0 (fun _ => False) := by
  refine Met.ofW (cc := cX10_child) (maxL := 5) (ret := (some .int)) (by decide) rfl ?_
  intro p e s m args below meth c s₁ B hml hv
  obtain ⟨rfl, hP, hC⟩ := hv
  have hK := hC.1
  have hx := B.exec
  have hb := B.bytes
  have hr := B.returns
  have hts := atoms_spec (ws := v_X10_child) B.pre
  have hown : s.vm.findClass RX10 = some m.cls := findClass_of_methodNamed B.named
  have hlocks := B.notSynchronized
  have hS : va_S (fun _ => False) s.heap s.heap [] := va_S.rf
  have hl := lv_entry ([.ref (a 21), .int p0, .int p1, .int 1]) (n := 5) (Nat.le_of_ble_eq_true rfl)
  rw [lg_entry_eq]
  generalize (lg_sl ([.ref (a 21), .int p0, .int p1, .int 1]) ++ List.replicate (5 - (lg_sl ([.ref (a 21), .int p0, .int p1, .int 1])).length) Slot.unset).toArray = ls at hl ⊢
  have hl : lv_has ls 5 [(0, .ref (a 21)), (1, .int p0), (2, .int p1), (3, .int 1)] := hl
  refine lv_iconst (v := 1) hx hb dX10_child_0 (by decide) ?_
  refine lv_istore (lv' := [(4, .int 1), (0, .ref (a 21)), (1, .int p0), (2, .int p1), (3, .int 1)]) hx hb dX10_child_1 hl (by decide) rfl (fun ls hl => ?_)
  refine lv_iload hx hb dX10_child_3 (lv_at hl 0 rfl) ?_
  refine lv_iload_n hx hb dX10_child_5 rfl (lv_at hl 4 rfl) ?_
  refine lv_icmp_ge (tgt := 46) hx hb dX10_child_6 (by decide) (fun _ => ?_) (fun c9_ => absurd (by decide) c9_)
  refine lv_iconst (v := (-1)) hx hb dX10_child_46 (by decide) ?_
  exact W.iret (v := (-1)) hx hb hr (fun t ht hW => ⟨⟨(-1), (), rfl, rfl, trivial⟩, hS.F ht⟩) hS.2.2 dX10_child_47

theorem dX10_find_0 : decode cX10_find 0 = .ok (.iload_n 1, 1) := by decide +kernel
theorem dX10_find_1 : decode cX10_find 1 = .ok (.istore_n 3, 1) := by decide +kernel
theorem dX10_find_2 : decode cX10_find 2 = .ok (.iconst 0, 1) := by decide +kernel
theorem dX10_find_3 : decode cX10_find 3 = .ok (.istore 4, 2) := by decide +kernel
theorem dX10_find_5 : decode cX10_find 5 = .ok (.iload 4, 2) := by decide +kernel
theorem dX10_find_7 : decode cX10_find 7 = .ok (.bipush 32, 2) := by decide +kernel
theorem dX10_find_9 : decode cX10_find 9 = .ok (.if_icmp .ge 48, 3) := by decide +kernel
theorem dX10_find_12 : decode cX10_find 12 = .ok (.iload_n 3, 1) := by decide +kernel
theorem dX10_find_13 : decode cX10_find 13 = .ok (.iconst (-1), 1) := by decide +kernel
theorem dX10_find_14 : decode cX10_find 14 = .ok (.if_icmp .eq 43, 3) := by decide +kernel
theorem dX10_find_17 : decode cX10_find 17 = .ok (.aload_n 0, 1) := by decide +kernel
theorem dX10_find_18 : decode cX10_find 18 = .ok (.iload_n 3, 1) := by decide +kernel
theorem dX10_find_19 : decode cX10_find 19 = .ok (.iload_n 2, 1) := by decide +kernel
theorem dX10_find_20 : decode cX10_find 20 = .ok (.aload_n 0, 1) := by decide +kernel
theorem dX10_find_21 : decode cX10_find 21 = .ok (.getfield 17, 3) := by decide +kernel
theorem dX10_find_24 : decode cX10_find 24 = .ok (.getfield 26, 3) := by decide +kernel
theorem dX10_find_27 : decode cX10_find 27 = .ok (.invokevirtual 49, 3) := by decide +kernel
theorem dX10_find_30 : decode cX10_find 30 = .ok (.istore 5, 2) := by decide +kernel
theorem dX10_find_32 : decode cX10_find 32 = .ok (.iload 5, 2) := by decide +kernel
theorem dX10_find_34 : decode cX10_find 34 = .ok (.iconst (-1), 1) := by decide +kernel
theorem dX10_find_35 : decode cX10_find 35 = .ok (.if_icmp .eq 6, 3) := by decide +kernel
theorem dX10_find_41 : decode cX10_find 41 = .ok (.aload_n 0, 1) := by decide +kernel
theorem dX10_find_42 : decode cX10_find 42 = .ok (.getfield 11, 3) := by decide +kernel
theorem dX10_find_45 : decode cX10_find 45 = .ok (.iload_n 3, 1) := by decide +kernel
theorem dX10_find_46 : decode cX10_find 46 = .ok (.aaload, 1) := by decide +kernel
theorem dX10_find_47 : decode cX10_find 47 = .ok (.getfield 46, 3) := by decide +kernel
theorem dX10_find_50 : decode cX10_find 50 = .ok (.istore_n 3, 1) := by decide +kernel
theorem dX10_find_51 : decode cX10_find 51 = .ok (.iinc 4 1, 3) := by decide +kernel
theorem dX10_find_54 : decode cX10_find 54 = .ok (.goto (-49), 3) := by decide +kernel
theorem dX10_find_57 : decode cX10_find 57 = .ok (.iconst (-1), 1) := by decide +kernel
theorem dX10_find_58 : decode cX10_find 58 = .ok (.ireturn, 1) := by decide +kernel
def v_X10_find : List Cond := .code yX10_find cX10_find 6 (some .int) :: ([.fieldLink RX10 17 "RestBoard$Tree" "now" "LRestBoard$State;", .fieldLink RX10 26 "RestBoard$State" "size" "I", .fieldLink RX10 11 "RestBoard$Tree" "nodes" "[LRestBoard$Node;", .fieldLink RX10 46 "RestBoard$Node" "parent" "I", .methodLink RX10 49 yX10_child, .instanceMethod yX10_child, .selects RX10 yX10_child yX10_child, .initialized RX10, .code yX10_child cX10_child 5 (some .int)] ++ wsX100 ++ wsX80 ++ wsX40)
theorem m_X10_find_0 : (.fieldLink RX10 17 "RestBoard$Tree" "now" "LRestBoard$State;" : Cond) ∈ v_X10_find := List.mem_of_getElem? (i := 1) (by decide +kernel)
theorem m_X10_find_1 : (.fieldLink RX10 26 "RestBoard$State" "size" "I" : Cond) ∈ v_X10_find := List.mem_of_getElem? (i := 2) (by decide +kernel)
theorem m_X10_find_2 : (.fieldLink RX10 11 "RestBoard$Tree" "nodes" "[LRestBoard$Node;" : Cond) ∈ v_X10_find := List.mem_of_getElem? (i := 3) (by decide +kernel)
theorem m_X10_find_3 : (.fieldLink RX10 46 "RestBoard$Node" "parent" "I" : Cond) ∈ v_X10_find := List.mem_of_getElem? (i := 4) (by decide +kernel)
theorem i_X10_find_X10 : ∀ w ∈ u_ws RX10 TX10 2, w ∈ v_X10_find := fun w h => List.mem_cons_of_mem _ (List.mem_append_left _ (List.mem_append_left _ (List.mem_append_right _ h)))
theorem i_X10_find_X8 : ∀ w ∈ u_ws RX8 TX8 17, w ∈ v_X10_find := fun w h => List.mem_cons_of_mem _ (List.mem_append_left _ (List.mem_append_right _ h))
theorem i_X10_find_X4 : ∀ w ∈ u_ws RX4 TX4 14, w ∈ v_X10_find := fun w h => List.mem_cons_of_mem _ (List.mem_append_right _ h)
set_option maxRecDepth 100000 in
theorem gg_X10_find_X10_child_49 : GoodIn v_X10_find v_X10_child := goodIn_r _ [9] (by decide +kernel) (by decide +kernel)
set_option maxRecDepth 100000 in
theorem g_X10_find_X10_child_49 : GoodIn v_X10_find (wsV RX10 49 RX10 yX10_child v_X10_child) := goodIn_app (goodIn_r _ [5, 6, 7, 8] (by decide +kernel) (by decide +kernel)) gg_X10_find_X10_child_49
set_option maxHeartbeats 4000000 in
set_option maxRecDepth 100000 in
theorem c_X10_find (l : Launch) (dC : Nat → ClassId) (dI : Nat → Nat → Nat) (cy : Nat → ClassId) (a : Nat → Nat) (g : Nat → Nat → Option Nat) (p1 : Int32) : Met l yX10_find v_X10_find ({ frames := 1, cells := 0, slots := 0, locals := 24 }) (va_Pc [.ref (a 21), .int 0, .int p1] (pp dC dI cy (fw a cy g))) (va_Qi (fun (r : Int32) (_ : Unit) => r = (-1)) (fun _ _ => True) (fun _ => False)) 0 0 (fun _ => False) := by
  refine Met.ofW (cc := cX10_find) (maxL := 6) (ret := (some .int)) (by decide) rfl ?_
  intro p e s m args below meth c s₁ B hml hv
  obtain ⟨rfl, hP, hC⟩ := hv
  have hK := hC.1
  have hx := B.exec
  have hb := B.bytes
  have hr := B.returns
  have hts := atoms_spec (ws := v_X10_find) B.pre
  have hown : s.vm.findClass RX10 = some m.cls := findClass_of_methodNamed B.named
  have hlocks := B.notSynchronized
  have hS : va_S (fun _ => False) s.heap s.heap [] := va_S.rf
  have hl := lv_entry ([.ref (a 21), .int 0, .int p1]) (n := 6) (Nat.le_of_ble_eq_true rfl)
  rw [lg_entry_eq]
  generalize (lg_sl ([.ref (a 21), .int 0, .int p1]) ++ List.replicate (6 - (lg_sl ([.ref (a 21), .int 0, .int p1])).length) Slot.unset).toArray = ls at hl ⊢
  have hl : lv_has ls 6 [(0, .ref (a 21)), (1, .int 0), (2, .int p1)] := hl
  refine lv_iload_n hx hb dX10_find_0 rfl (lv_at hl 1 rfl) ?_
  refine lv_istore_n (lv' := [(3, .int 0), (0, .ref (a 21)), (1, .int 0), (2, .int p1)]) hx hb dX10_find_1 rfl hl (by decide) rfl (fun ls hl => ?_)
  refine lv_iconst (v := 0) hx hb dX10_find_2 (by decide) ?_
  refine lv_istore (lv' := [(4, .int 0), (3, .int 0), (0, .ref (a 21)), (1, .int 0), (2, .int p1)]) hx hb dX10_find_3 hl (by decide) rfl (fun ls hl => ?_)
  refine lv_iload hx hb dX10_find_5 (lv_at hl 0 rfl) ?_
  refine lv_bipush (v := 32) hx hb dX10_find_7 (by decide) ?_
  refine lv_icmp_ge (tgt := 57) hx hb dX10_find_9 (by decide) (fun c9_ => absurd c9_ (by decide)) (fun _ => ?_)
  refine lv_iload_n hx hb dX10_find_12 rfl (lv_at hl 1 rfl) ?_
  refine lv_iconst (v := (-1)) hx hb dX10_find_13 (by decide) ?_
  refine lv_icmp_eq (tgt := 57) hx hb dX10_find_14 (by decide) (fun c9_ => absurd c9_ (by decide)) (fun _ => ?_)
  refine lv_aload_n hx hb dX10_find_17 rfl (lv_at hl 2 rfl) ?_
  refine lv_iload_n hx hb dX10_find_18 rfl (lv_at hl 1 rfl) ?_
  refine lv_iload_n hx hb dX10_find_19 rfl (lv_at hl 4 rfl) ?_
  refine lv_aload_n hx hb dX10_find_20 rfl (lv_at hl 2 rfl) ?_
  refine va_get (D := (dC, dI)) (ci := 10) (v := .ref (a 1)) (C := RX10) (T := TX10) (N := 2) hx hb hts i_X10_find_X10 hown hK hP 21 rfl rfl 1 (by decide) (hts _ m_X10_find_0) (fun _ h9 => h9) rfl dX10_find_21 ?_
  refine va_get (D := (dC, dI)) (ci := 8) (v := .int 1) (C := RX8) (T := TX8) (N := 17) hx hb hts i_X10_find_X8 hown hK hP 1 rfl rfl 0 (by decide) (hts _ m_X10_find_1) (fun _ h9 => h9) rfl dX10_find_24 ?_
  refine tk_pi (va_runV (As := [.int 0, .int p1, .int 1]) (rest := []) ⟨hx, hb, hml, hown, hts⟩ (c_X10_child l dC dI cy a g 0 p1) (cwV 3 hts g_X10_find_X10_child_49 rfl rfl rfl (by decide +kernel) ⟨Nat.le_of_ble_eq_true rfl, Nat.le_of_ble_eq_true rfl⟩) (pv_pp hC hP (ci := 10) (q0 := 21) rfl rfl) rfl rfl hl.1 rfl (lv_room (Nat.le_of_ble_eq_true rfl)) dX10_find_27 ⟨Nat.le_of_ble_eq_true rfl, Nat.le_of_ble_eq_true rfl⟩) hP hS (fun r_ H locs hw hP hS => ?_)
  subst hw
  refine lv_istore (lv' := [(5, .int (-1)), (4, .int 0), (3, .int 0), (0, .ref (a 21)), (1, .int 0), (2, .int p1)]) hx hb dX10_find_30 hl (by decide) rfl (fun ls hl => ?_)
  refine lv_iload hx hb dX10_find_32 (lv_at hl 0 rfl) ?_
  refine lv_iconst (v := (-1)) hx hb dX10_find_34 (by decide) ?_
  refine lv_icmp_eq (tgt := 41) hx hb dX10_find_35 (by decide) (fun _ => ?_) (fun c9_ => absurd (by decide) c9_)
  refine lv_aload_n hx hb dX10_find_41 rfl (lv_at hl 3 rfl) ?_
  refine va_get (D := (dC, dI)) (ci := 10) (v := .ref (a 22)) (C := RX10) (T := TX10) (N := 2) hx hb hts i_X10_find_X10 hown hK hP 21 rfl rfl 0 (by decide) (hts _ m_X10_find_2) (fun _ h9 => h9) rfl dX10_find_42 ?_
  refine lv_iload_n hx hb dX10_find_45 rfl (lv_at hl 2 rfl) ?_
  refine va_aldq hx hb hK hP 22 1 rfl rfl (show ¬ ((0 : Int32) < 0 ∨ 32 ≤ Int32.toNatClampNeg 0) by decide) dX10_find_46 ?_
  refine tk_v (.ref (a 23)) (by rfl) ?_
  refine va_get (D := (dC, dI)) (ci := 4) (v := .int (-1)) (C := RX4) (T := TX4) (N := 14) hx hb hts i_X10_find_X4 hown hK hP 23 rfl rfl 2 (by decide) (hts _ m_X10_find_3) (fun _ h9 => h9) rfl dX10_find_47 ?_
  refine lv_istore_n (lv' := [(3, .int (-1)), (5, .int (-1)), (4, .int 0), (0, .ref (a 21)), (1, .int 0), (2, .int p1)]) hx hb dX10_find_50 rfl hl (by decide) rfl (fun ls hl => ?_)
  refine lv_iinc (v := 1) (lv' := [(4, .int 1), (3, .int (-1)), (5, .int (-1)), (0, .ref (a 21)), (1, .int 0), (2, .int p1)]) hx hb dX10_find_51 hl (k := 2) rfl (by decide) (by decide) rfl (fun ls hl => ?_)
  refine lv_goto (tgt := 5) hx hb dX10_find_54 (by decide) ?_
  refine lv_iload hx hb dX10_find_5 (lv_at hl 0 rfl) ?_
  refine lv_bipush (v := 32) hx hb dX10_find_7 (by decide) ?_
  refine lv_icmp_ge (tgt := 57) hx hb dX10_find_9 (by decide) (fun c9_ => absurd c9_ (by decide)) (fun _ => ?_)
  refine lv_iload_n hx hb dX10_find_12 rfl (lv_at hl 1 rfl) ?_
  refine lv_iconst (v := (-1)) hx hb dX10_find_13 (by decide) ?_
  refine lv_icmp_eq (tgt := 57) hx hb dX10_find_14 (by decide) (fun _ => ?_) (fun c9_ => absurd (by decide) c9_)
  refine lv_iconst (v := (-1)) hx hb dX10_find_57 (by decide) ?_
  exact W.iret (v := (-1)) hx hb hr (fun t ht hW => ⟨⟨(-1), (), rfl, rfl, trivial⟩, hS.F ht⟩) hS.2.2 dX10_find_58

theorem dX10_own_0 : decode cX10_own 0 = .ok (.aload_n 0, 1) := by decide +kernel
theorem dX10_own_1 : decode cX10_own 1 = .ok (.iload_n 1, 1) := by decide +kernel
theorem dX10_own_2 : decode cX10_own 2 = .ok (.iload_n 2, 1) := by decide +kernel
theorem dX10_own_3 : decode cX10_own 3 = .ok (.aload_n 0, 1) := by decide +kernel
theorem dX10_own_4 : decode cX10_own 4 = .ok (.getfield 17, 3) := by decide +kernel
theorem dX10_own_7 : decode cX10_own 7 = .ok (.getfield 26, 3) := by decide +kernel
theorem dX10_own_10 : decode cX10_own 10 = .ok (.invokevirtual 49, 3) := by decide +kernel
theorem dX10_own_13 : decode cX10_own 13 = .ok (.istore 4, 2) := by decide +kernel
theorem dX10_own_15 : decode cX10_own 15 = .ok (.iload 4, 2) := by decide +kernel
theorem dX10_own_17 : decode cX10_own 17 = .ok (.iconst (-1), 1) := by decide +kernel
theorem dX10_own_18 : decode cX10_own 18 = .ok (.if_icmp .eq 22, 3) := by decide +kernel
theorem dX10_own_40 : decode cX10_own 40 = .ok (.iconst (-1), 1) := by decide +kernel
theorem dX10_own_41 : decode cX10_own 41 = .ok (.ireturn, 1) := by decide +kernel
def v_X10_own : List Cond := .code yX10_own cX10_own 5 (some .int) :: ([.fieldLink RX10 17 "RestBoard$Tree" "now" "LRestBoard$State;", .fieldLink RX10 26 "RestBoard$State" "size" "I", .methodLink RX10 49 yX10_child, .instanceMethod yX10_child, .selects RX10 yX10_child yX10_child, .initialized RX10, .code yX10_child cX10_child 5 (some .int)] ++ wsX100 ++ wsX80)
theorem m_X10_own_0 : (.fieldLink RX10 17 "RestBoard$Tree" "now" "LRestBoard$State;" : Cond) ∈ v_X10_own := List.mem_of_getElem? (i := 1) (by decide +kernel)
theorem m_X10_own_1 : (.fieldLink RX10 26 "RestBoard$State" "size" "I" : Cond) ∈ v_X10_own := List.mem_of_getElem? (i := 2) (by decide +kernel)
theorem i_X10_own_X10 : ∀ w ∈ u_ws RX10 TX10 2, w ∈ v_X10_own := fun w h => List.mem_cons_of_mem _ (List.mem_append_left _ (List.mem_append_right _ h))
theorem i_X10_own_X8 : ∀ w ∈ u_ws RX8 TX8 17, w ∈ v_X10_own := fun w h => List.mem_cons_of_mem _ (List.mem_append_right _ h)
set_option maxRecDepth 100000 in
theorem gg_X10_own_X10_child_49 : GoodIn v_X10_own v_X10_child := goodIn_r _ [7] (by decide +kernel) (by decide +kernel)
set_option maxRecDepth 100000 in
theorem g_X10_own_X10_child_49 : GoodIn v_X10_own (wsV RX10 49 RX10 yX10_child v_X10_child) := goodIn_app (goodIn_r _ [3, 4, 5, 6] (by decide +kernel) (by decide +kernel)) gg_X10_own_X10_child_49
set_option maxHeartbeats 4000000 in
set_option maxRecDepth 100000 in
theorem c_X10_own (l : Launch) (dC : Nat → ClassId) (dI : Nat → Nat → Nat) (cy : Nat → ClassId) (a : Nat → Nat) (g : Nat → Nat → Option Nat) (p1 p2 : Int32) : Met l yX10_own v_X10_own ({ frames := 1, cells := 0, slots := 0, locals := 24 }) (va_Pc [.ref (a 21), .int 0, .int p1, .int p2] (pp dC dI cy (fw a cy g))) (va_Qi (fun (r : Int32) (_ : Unit) => r = (-1)) (fun _ _ => True) (fun _ => False)) 0 0 (fun _ => False) := by
  refine Met.ofW (cc := cX10_own) (maxL := 5) (ret := (some .int)) (by decide) rfl ?_
  intro p e s m args below meth c s₁ B hml hv
  obtain ⟨rfl, hP, hC⟩ := hv
  have hK := hC.1
  have hx := B.exec
  have hb := B.bytes
  have hr := B.returns
  have hts := atoms_spec (ws := v_X10_own) B.pre
  have hown : s.vm.findClass RX10 = some m.cls := findClass_of_methodNamed B.named
  have hlocks := B.notSynchronized
  have hS : va_S (fun _ => False) s.heap s.heap [] := va_S.rf
  have hl := lv_entry ([.ref (a 21), .int 0, .int p1, .int p2]) (n := 5) (Nat.le_of_ble_eq_true rfl)
  rw [lg_entry_eq]
  generalize (lg_sl ([.ref (a 21), .int 0, .int p1, .int p2]) ++ List.replicate (5 - (lg_sl ([.ref (a 21), .int 0, .int p1, .int p2])).length) Slot.unset).toArray = ls at hl ⊢
  have hl : lv_has ls 5 [(0, .ref (a 21)), (1, .int 0), (2, .int p1), (3, .int p2)] := hl
  refine lv_aload_n hx hb dX10_own_0 rfl (lv_at hl 0 rfl) ?_
  refine lv_iload_n hx hb dX10_own_1 rfl (lv_at hl 1 rfl) ?_
  refine lv_iload_n hx hb dX10_own_2 rfl (lv_at hl 2 rfl) ?_
  refine lv_aload_n hx hb dX10_own_3 rfl (lv_at hl 0 rfl) ?_
  refine va_get (D := (dC, dI)) (ci := 10) (v := .ref (a 1)) (C := RX10) (T := TX10) (N := 2) hx hb hts i_X10_own_X10 hown hK hP 21 rfl rfl 1 (by decide) (hts _ m_X10_own_0) (fun _ h9 => h9) rfl dX10_own_4 ?_
  refine va_get (D := (dC, dI)) (ci := 8) (v := .int 1) (C := RX8) (T := TX8) (N := 17) hx hb hts i_X10_own_X8 hown hK hP 1 rfl rfl 0 (by decide) (hts _ m_X10_own_1) (fun _ h9 => h9) rfl dX10_own_7 ?_
  refine tk_pi (va_runV (As := [.int 0, .int p1, .int 1]) (rest := []) ⟨hx, hb, hml, hown, hts⟩ (c_X10_child l dC dI cy a g 0 p1) (cwV 3 hts g_X10_own_X10_child_49 rfl rfl rfl (by decide +kernel) ⟨Nat.le_of_ble_eq_true rfl, Nat.le_of_ble_eq_true rfl⟩) (pv_pp hC hP (ci := 10) (q0 := 21) rfl rfl) rfl rfl hl.1 rfl (lv_room (Nat.le_of_ble_eq_true rfl)) dX10_own_10 ⟨Nat.le_of_ble_eq_true rfl, Nat.le_of_ble_eq_true rfl⟩) hP hS (fun r_ H locs hw hP hS => ?_)
  subst hw
  refine lv_istore (lv' := [(4, .int (-1)), (0, .ref (a 21)), (1, .int 0), (2, .int p1), (3, .int p2)]) hx hb dX10_own_13 hl (by decide) rfl (fun ls hl => ?_)
  refine lv_iload hx hb dX10_own_15 (lv_at hl 0 rfl) ?_
  refine lv_iconst (v := (-1)) hx hb dX10_own_17 (by decide) ?_
  refine lv_icmp_eq (tgt := 40) hx hb dX10_own_18 (by decide) (fun _ => ?_) (fun c9_ => absurd (by decide) c9_)
  refine lv_iconst (v := (-1)) hx hb dX10_own_40 (by decide) ?_
  exact W.iret (v := (-1)) hx hb hr (fun t ht hW => ⟨⟨(-1), (), rfl, rfl, trivial⟩, hS.F ht⟩) hS.2.2 dX10_own_41

theorem dX10_devices_0 : decode cX10_devices 0 = .ok (.iconst 0, 1) := by decide +kernel
theorem dX10_devices_1 : decode cX10_devices 1 = .ok (.istore_n 1, 1) := by decide +kernel
theorem dX10_devices_2 : decode cX10_devices 2 = .ok (.iconst 0, 1) := by decide +kernel
theorem dX10_devices_3 : decode cX10_devices 3 = .ok (.istore_n 2, 1) := by decide +kernel
theorem dX10_devices_4 : decode cX10_devices 4 = .ok (.iload_n 2, 1) := by decide +kernel
theorem dX10_devices_5 : decode cX10_devices 5 = .ok (.aload_n 0, 1) := by decide +kernel
theorem dX10_devices_6 : decode cX10_devices 6 = .ok (.getfield 17, 3) := by decide +kernel
theorem dX10_devices_9 : decode cX10_devices 9 = .ok (.getfield 26, 3) := by decide +kernel
theorem dX10_devices_12 : decode cX10_devices 12 = .ok (.if_icmp .ge 30, 3) := by decide +kernel
theorem dX10_devices_15 : decode cX10_devices 15 = .ok (.iload_n 1, 1) := by decide +kernel
theorem dX10_devices_16 : decode cX10_devices 16 = .ok (.aload_n 0, 1) := by decide +kernel
theorem dX10_devices_17 : decode cX10_devices 17 = .ok (.getfield 11, 3) := by decide +kernel
theorem dX10_devices_20 : decode cX10_devices 20 = .ok (.iload_n 2, 1) := by decide +kernel
theorem dX10_devices_21 : decode cX10_devices 21 = .ok (.aaload, 1) := by decide +kernel
theorem dX10_devices_22 : decode cX10_devices 22 = .ok (.getfield 36, 3) := by decide +kernel
theorem dX10_devices_25 : decode cX10_devices 25 = .ok (.iconst 1, 1) := by decide +kernel
theorem dX10_devices_26 : decode cX10_devices 26 = .ok (.if_icmp .ne 7, 3) := by decide +kernel
theorem dX10_devices_29 : decode cX10_devices 29 = .ok (.iconst 1, 1) := by decide +kernel
theorem dX10_devices_30 : decode cX10_devices 30 = .ok (.goto 4, 3) := by decide +kernel
theorem dX10_devices_34 : decode cX10_devices 34 = .ok (.iadd, 1) := by decide +kernel
theorem dX10_devices_35 : decode cX10_devices 35 = .ok (.istore_n 1, 1) := by decide +kernel
theorem dX10_devices_36 : decode cX10_devices 36 = .ok (.iinc 2 1, 3) := by decide +kernel
theorem dX10_devices_39 : decode cX10_devices 39 = .ok (.goto (-35), 3) := by decide +kernel
theorem dX10_devices_42 : decode cX10_devices 42 = .ok (.iload_n 1, 1) := by decide +kernel
theorem dX10_devices_43 : decode cX10_devices 43 = .ok (.ireturn, 1) := by decide +kernel
def v_X10_devices : List Cond := .code yX10_devices cX10_devices 3 (some .int) :: ([.fieldLink RX10 17 "RestBoard$Tree" "now" "LRestBoard$State;", .fieldLink RX10 26 "RestBoard$State" "size" "I", .fieldLink RX10 11 "RestBoard$Tree" "nodes" "[LRestBoard$Node;", .fieldLink RX10 36 "RestBoard$Node" "kind" "I"] ++ wsX100 ++ wsX80 ++ wsX40)
theorem m_X10_devices_0 : (.fieldLink RX10 17 "RestBoard$Tree" "now" "LRestBoard$State;" : Cond) ∈ v_X10_devices := List.mem_of_getElem? (i := 1) (by decide +kernel)
theorem m_X10_devices_1 : (.fieldLink RX10 26 "RestBoard$State" "size" "I" : Cond) ∈ v_X10_devices := List.mem_of_getElem? (i := 2) (by decide +kernel)
theorem m_X10_devices_2 : (.fieldLink RX10 11 "RestBoard$Tree" "nodes" "[LRestBoard$Node;" : Cond) ∈ v_X10_devices := List.mem_of_getElem? (i := 3) (by decide +kernel)
theorem m_X10_devices_3 : (.fieldLink RX10 36 "RestBoard$Node" "kind" "I" : Cond) ∈ v_X10_devices := List.mem_of_getElem? (i := 4) (by decide +kernel)
theorem i_X10_devices_X10 : ∀ w ∈ u_ws RX10 TX10 2, w ∈ v_X10_devices := fun w h => List.mem_cons_of_mem _ (List.mem_append_left _ (List.mem_append_left _ (List.mem_append_right _ h)))
theorem i_X10_devices_X8 : ∀ w ∈ u_ws RX8 TX8 17, w ∈ v_X10_devices := fun w h => List.mem_cons_of_mem _ (List.mem_append_left _ (List.mem_append_right _ h))
theorem i_X10_devices_X4 : ∀ w ∈ u_ws RX4 TX4 14, w ∈ v_X10_devices := fun w h => List.mem_cons_of_mem _ (List.mem_append_right _ h)
set_option maxHeartbeats 4000000 in
set_option maxRecDepth 100000 in
theorem c_X10_devices (l : Launch) (dC : Nat → ClassId) (dI : Nat → Nat → Nat) (cy : Nat → ClassId) (a : Nat → Nat) (g : Nat → Nat → Option Nat) : Met l yX10_devices v_X10_devices ({ frames := 0, cells := 0, slots := 0, locals := 0 }) (va_Pc [.ref (a 21)] (pp dC dI cy (fw a cy g))) (va_Qi (fun (r : Int32) (_ : Unit) => r = 1) (fun _ _ => True) (fun _ => False)) 0 0 (fun _ => False) := by
  refine Met.ofW (cc := cX10_devices) (maxL := 3) (ret := (some .int)) (by decide) rfl ?_
  intro p e s m args below meth c s₁ B hml hv
  obtain ⟨rfl, hP, hC⟩ := hv
  have hK := hC.1
  have hx := B.exec
  have hb := B.bytes
  have hr := B.returns
  have hts := atoms_spec (ws := v_X10_devices) B.pre
  have hown : s.vm.findClass RX10 = some m.cls := findClass_of_methodNamed B.named
  have hlocks := B.notSynchronized
  have hS : va_S (fun _ => False) s.heap s.heap [] := va_S.rf
  have hl := lv_entry ([.ref (a 21)]) (n := 3) (Nat.le_of_ble_eq_true rfl)
  rw [lg_entry_eq]
  generalize (lg_sl ([.ref (a 21)]) ++ List.replicate (3 - (lg_sl ([.ref (a 21)])).length) Slot.unset).toArray = ls at hl ⊢
  have hl : lv_has ls 3 [(0, .ref (a 21))] := hl
  refine lv_iconst (v := 0) hx hb dX10_devices_0 (by decide) ?_
  refine lv_istore_n (lv' := [(1, .int 0), (0, .ref (a 21))]) hx hb dX10_devices_1 rfl hl (by decide) rfl (fun ls hl => ?_)
  refine lv_iconst (v := 0) hx hb dX10_devices_2 (by decide) ?_
  refine lv_istore_n (lv' := [(2, .int 0), (1, .int 0), (0, .ref (a 21))]) hx hb dX10_devices_3 rfl hl (by decide) rfl (fun ls hl => ?_)
  refine lv_iload_n hx hb dX10_devices_4 rfl (lv_at hl 0 rfl) ?_
  refine lv_aload_n hx hb dX10_devices_5 rfl (lv_at hl 2 rfl) ?_
  refine va_get (D := (dC, dI)) (ci := 10) (v := .ref (a 1)) (C := RX10) (T := TX10) (N := 2) hx hb hts i_X10_devices_X10 hown hK hP 21 rfl rfl 1 (by decide) (hts _ m_X10_devices_0) (fun _ h9 => h9) rfl dX10_devices_6 ?_
  refine va_get (D := (dC, dI)) (ci := 8) (v := .int 1) (C := RX8) (T := TX8) (N := 17) hx hb hts i_X10_devices_X8 hown hK hP 1 rfl rfl 0 (by decide) (hts _ m_X10_devices_1) (fun _ h9 => h9) rfl dX10_devices_9 ?_
  refine lv_icmp_ge (tgt := 42) hx hb dX10_devices_12 (by decide) (fun c9_ => absurd c9_ (by decide)) (fun _ => ?_)
  refine lv_iload_n hx hb dX10_devices_15 rfl (lv_at hl 1 rfl) ?_
  refine lv_aload_n hx hb dX10_devices_16 rfl (lv_at hl 2 rfl) ?_
  refine va_get (D := (dC, dI)) (ci := 10) (v := .ref (a 22)) (C := RX10) (T := TX10) (N := 2) hx hb hts i_X10_devices_X10 hown hK hP 21 rfl rfl 0 (by decide) (hts _ m_X10_devices_2) (fun _ h9 => h9) rfl dX10_devices_17 ?_
  refine lv_iload_n hx hb dX10_devices_20 rfl (lv_at hl 0 rfl) ?_
  refine va_aldq hx hb hK hP 22 1 rfl rfl (show ¬ ((0 : Int32) < 0 ∨ 32 ≤ Int32.toNatClampNeg 0) by decide) dX10_devices_21 ?_
  refine tk_v (.ref (a 23)) (by rfl) ?_
  refine va_get (D := (dC, dI)) (ci := 4) (v := .int 1) (C := RX4) (T := TX4) (N := 14) hx hb hts i_X10_devices_X4 hown hK hP 23 rfl rfl 0 (by decide) (hts _ m_X10_devices_3) (fun _ h9 => h9) rfl dX10_devices_22 ?_
  refine lv_iconst (v := 1) hx hb dX10_devices_25 (by decide) ?_
  refine lv_icmp_ne (tgt := 33) hx hb dX10_devices_26 (by decide) (fun c9_ => absurd (by decide) c9_) (fun _ => ?_)
  refine lv_iconst (v := 1) hx hb dX10_devices_29 (by decide) ?_
  refine lv_goto (tgt := 34) hx hb dX10_devices_30 (by decide) ?_
  refine lv_iadd hx hb dX10_devices_34 ?_
  refine tk_i 1 (by decide) ?_
  refine lv_istore_n (lv' := [(1, .int 1), (2, .int 0), (0, .ref (a 21))]) hx hb dX10_devices_35 rfl hl (by decide) rfl (fun ls hl => ?_)
  refine lv_iinc (v := 1) (lv' := [(2, .int 1), (1, .int 1), (0, .ref (a 21))]) hx hb dX10_devices_36 hl (k := 1) rfl (by decide) (by decide) rfl (fun ls hl => ?_)
  refine lv_goto (tgt := 4) hx hb dX10_devices_39 (by decide) ?_
  refine lv_iload_n hx hb dX10_devices_4 rfl (lv_at hl 0 rfl) ?_
  refine lv_aload_n hx hb dX10_devices_5 rfl (lv_at hl 2 rfl) ?_
  refine va_get (D := (dC, dI)) (ci := 10) (v := .ref (a 1)) (C := RX10) (T := TX10) (N := 2) hx hb hts i_X10_devices_X10 hown hK hP 21 rfl rfl 1 (by decide) (hts _ m_X10_devices_0) (fun _ h9 => h9) rfl dX10_devices_6 ?_
  refine va_get (D := (dC, dI)) (ci := 8) (v := .int 1) (C := RX8) (T := TX8) (N := 17) hx hb hts i_X10_devices_X8 hown hK hP 1 rfl rfl 0 (by decide) (hts _ m_X10_devices_1) (fun _ h9 => h9) rfl dX10_devices_9 ?_
  refine lv_icmp_ge (tgt := 42) hx hb dX10_devices_12 (by decide) (fun _ => ?_) (fun c9_ => absurd (by decide) c9_)
  refine lv_iload_n hx hb dX10_devices_42 rfl (lv_at hl 1 rfl) ?_
  exact W.iret (v := 1) hx hb hr (fun t ht hW => ⟨⟨1, (), rfl, rfl, trivial⟩, hS.F ht⟩) hS.2.2 dX10_devices_43

theorem dX11_isValue_0 : decode cX11_isValue 0 = .ok (.iload_n 0, 1) := by decide +kernel
theorem dX11_isValue_1 : decode cX11_isValue 1 = .ok (.ifCond .lt 14, 3) := by decide +kernel
theorem dX11_isValue_4 : decode cX11_isValue 4 = .ok (.iload_n 0, 1) := by decide +kernel
theorem dX11_isValue_5 : decode cX11_isValue 5 = .ok (.ldc_w 296, 3) := by decide +kernel
theorem dX11_isValue_8 : decode cX11_isValue 8 = .ok (.if_icmp .ge 7, 3) := by decide +kernel
theorem dX11_isValue_11 : decode cX11_isValue 11 = .ok (.iconst 1, 1) := by decide +kernel
theorem dX11_isValue_12 : decode cX11_isValue 12 = .ok (.goto 4, 3) := by decide +kernel
theorem dX11_isValue_15 : decode cX11_isValue 15 = .ok (.iconst 0, 1) := by decide +kernel
theorem dX11_isValue_16 : decode cX11_isValue 16 = .ok (.ireturn, 1) := by decide +kernel
def v_X11_isValue : List Cond := .code yX11_isValue cX11_isValue 1 (some .boolean) :: ([.constant RX11 296 (65536)])
theorem m_X11_isValue_0 : (.constant RX11 296 (65536) : Cond) ∈ v_X11_isValue := List.mem_of_getElem? (i := 1) (by decide +kernel)
set_option maxHeartbeats 4000000 in
set_option maxRecDepth 100000 in
theorem c_X11_isValue (l : Launch) (dC : Nat → ClassId) (dI : Nat → Nat → Nat) (cy : Nat → ClassId)  (p0 : Int32) : Met l yX11_isValue v_X11_isValue ({ frames := 0, cells := 0, slots := 0, locals := 0 }) (va_Pc [.int p0] (pp dC dI cy ([]))) (va_Qi (fun (r : Int32) (_ : Unit) => ((p0 < 0) ∧ r = 0) ∨ ((¬ p0 < 0) ∧ ((65536 : Int32) ≤ p0) ∧ r = 0) ∨ ((¬ p0 < 0) ∧ (¬ (65536 : Int32) ≤ p0) ∧ r = 1)) (fun _ _ => True) (fun _ => False)) 0 0 (fun _ => False) := by
  refine Met.ofW (cc := cX11_isValue) (maxL := 1) (ret := (some .boolean)) (by decide) rfl ?_
  intro p e s m args below meth c s₁ B hml hv
  obtain ⟨rfl, hP, hC⟩ := hv
  have hK := hC.1
  have hx := B.exec
  have hb := B.bytes
  have hr := B.returns
  have hts := atoms_spec (ws := v_X11_isValue) B.pre
  have hown : s.vm.findClass RX11 = some m.cls := findClass_of_methodNamed B.named
  have hlocks := B.notSynchronized
  have hS : va_S (fun _ => False) s.heap s.heap [] := va_S.rf
  have hl := lv_entry ([.int p0]) (n := 1) (Nat.le_of_ble_eq_true rfl)
  rw [lg_entry_eq]
  generalize (lg_sl ([.int p0]) ++ List.replicate (1 - (lg_sl ([.int p0])).length) Slot.unset).toArray = ls at hl ⊢
  have hl : lv_has ls 1 [(0, .int p0)] := hl
  refine lv_iload_n hx hb dX11_isValue_0 rfl (lv_at hl 0 rfl) ?_
  refine lv_if_lt (tgt := 15) hx hb dX11_isValue_1 (by decide) (fun c1_ => ?_) (fun c1_ => ?_)
  · skip
    refine lv_iconst (v := 0) hx hb dX11_isValue_15 (by decide) ?_
    exact W.zret (v := 0) (ty := .boolean) hx hb hr rfl (fun t ht hW => ⟨⟨0, (), rfl, Or.inl (⟨c1_, rfl⟩), trivial⟩, hS.F ht⟩) hS.2.2 dX11_isValue_16
  · skip
    refine lv_iload_n hx hb dX11_isValue_4 rfl (lv_at hl 0 rfl) ?_
    refine lv_ldcw (v := 65536) hx hb hown (hts _ m_X11_isValue_0) dX11_isValue_5 ?_
    refine lv_icmp_ge (tgt := 15) hx hb dX11_isValue_8 (by decide) (fun c2_ => ?_) (fun c2_ => ?_)
    · skip
      refine lv_iconst (v := 0) hx hb dX11_isValue_15 (by decide) ?_
      exact W.zret (v := 0) (ty := .boolean) hx hb hr rfl (fun t ht hW => ⟨⟨0, (), rfl, Or.inr (Or.inl (⟨c1_, c2_, rfl⟩)), trivial⟩, hS.F ht⟩) hS.2.2 dX11_isValue_16
    · skip
      refine lv_iconst (v := 1) hx hb dX11_isValue_11 (by decide) ?_
      refine lv_goto (tgt := 16) hx hb dX11_isValue_12 (by decide) ?_
      exact W.zret (v := 1) (ty := .boolean) hx hb hr rfl (fun t ht hW => ⟨⟨1, (), rfl, Or.inr (Or.inr (⟨c1_, c2_, rfl⟩)), trivial⟩, hS.F ht⟩) hS.2.2 dX11_isValue_16

theorem dX11_isLine_0 : decode cX11_isLine 0 = .ok (.iload_n 0, 1) := by decide +kernel
theorem dX11_isLine_1 : decode cX11_isLine 1 = .ok (.ifCond .lt 13, 3) := by decide +kernel
theorem dX11_isLine_4 : decode cX11_isLine 4 = .ok (.iload_n 0, 1) := by decide +kernel
theorem dX11_isLine_5 : decode cX11_isLine 5 = .ok (.bipush 8, 2) := by decide +kernel
theorem dX11_isLine_7 : decode cX11_isLine 7 = .ok (.if_icmp .ge 7, 3) := by decide +kernel
theorem dX11_isLine_10 : decode cX11_isLine 10 = .ok (.iconst 1, 1) := by decide +kernel
theorem dX11_isLine_11 : decode cX11_isLine 11 = .ok (.goto 4, 3) := by decide +kernel
theorem dX11_isLine_14 : decode cX11_isLine 14 = .ok (.iconst 0, 1) := by decide +kernel
theorem dX11_isLine_15 : decode cX11_isLine 15 = .ok (.ireturn, 1) := by decide +kernel
def v_X11_isLine : List Cond := .code yX11_isLine cX11_isLine 1 (some .boolean) :: ([])
set_option maxHeartbeats 4000000 in
set_option maxRecDepth 100000 in
theorem c_X11_isLine (l : Launch) (dC : Nat → ClassId) (dI : Nat → Nat → Nat) (cy : Nat → ClassId)  (p0 : Int32) : Met l yX11_isLine v_X11_isLine ({ frames := 0, cells := 0, slots := 0, locals := 0 }) (va_Pc [.int p0] (pp dC dI cy ([]))) (va_Qi (fun (r : Int32) (_ : Unit) => ((p0 < 0) ∧ r = 0) ∨ ((¬ p0 < 0) ∧ ((8 : Int32) ≤ p0) ∧ r = 0) ∨ ((¬ p0 < 0) ∧ (¬ (8 : Int32) ≤ p0) ∧ r = 1)) (fun _ _ => True) (fun _ => False)) 0 0 (fun _ => False) := by
  refine Met.ofW (cc := cX11_isLine) (maxL := 1) (ret := (some .boolean)) (by decide) rfl ?_
  intro p e s m args below meth c s₁ B hml hv
  obtain ⟨rfl, hP, hC⟩ := hv
  have hK := hC.1
  have hx := B.exec
  have hb := B.bytes
  have hr := B.returns
  have hts := atoms_spec (ws := v_X11_isLine) B.pre
  have hown : s.vm.findClass RX11 = some m.cls := findClass_of_methodNamed B.named
  have hlocks := B.notSynchronized
  have hS : va_S (fun _ => False) s.heap s.heap [] := va_S.rf
  have hl := lv_entry ([.int p0]) (n := 1) (Nat.le_of_ble_eq_true rfl)
  rw [lg_entry_eq]
  generalize (lg_sl ([.int p0]) ++ List.replicate (1 - (lg_sl ([.int p0])).length) Slot.unset).toArray = ls at hl ⊢
  have hl : lv_has ls 1 [(0, .int p0)] := hl
  refine lv_iload_n hx hb dX11_isLine_0 rfl (lv_at hl 0 rfl) ?_
  refine lv_if_lt (tgt := 14) hx hb dX11_isLine_1 (by decide) (fun c1_ => ?_) (fun c1_ => ?_)
  · skip
    refine lv_iconst (v := 0) hx hb dX11_isLine_14 (by decide) ?_
    exact W.zret (v := 0) (ty := .boolean) hx hb hr rfl (fun t ht hW => ⟨⟨0, (), rfl, Or.inl (⟨c1_, rfl⟩), trivial⟩, hS.F ht⟩) hS.2.2 dX11_isLine_15
  · skip
    refine lv_iload_n hx hb dX11_isLine_4 rfl (lv_at hl 0 rfl) ?_
    refine lv_bipush (v := 8) hx hb dX11_isLine_5 (by decide) ?_
    refine lv_icmp_ge (tgt := 14) hx hb dX11_isLine_7 (by decide) (fun c2_ => ?_) (fun c2_ => ?_)
    · skip
      refine lv_iconst (v := 0) hx hb dX11_isLine_14 (by decide) ?_
      exact W.zret (v := 0) (ty := .boolean) hx hb hr rfl (fun t ht hW => ⟨⟨0, (), rfl, Or.inr (Or.inl (⟨c1_, c2_, rfl⟩)), trivial⟩, hS.F ht⟩) hS.2.2 dX11_isLine_15
    · skip
      refine lv_iconst (v := 1) hx hb dX11_isLine_10 (by decide) ?_
      refine lv_goto (tgt := 15) hx hb dX11_isLine_11 (by decide) ?_
      exact W.zret (v := 1) (ty := .boolean) hx hb hr rfl (fun t ht hW => ⟨⟨1, (), rfl, Or.inr (Or.inr (⟨c1_, c2_, rfl⟩)), trivial⟩, hS.F ht⟩) hS.2.2 dX11_isLine_15

theorem dX11_isRaised_0 : decode cX11_isRaised 0 = .ok (.aload_n 0, 1) := by decide +kernel
theorem dX11_isRaised_1 : decode cX11_isRaised 1 = .ok (.getfield 10, 3) := by decide +kernel
theorem dX11_isRaised_4 : decode cX11_isRaised 4 = .ok (.getfield 187, 3) := by decide +kernel
theorem dX11_isRaised_7 : decode cX11_isRaised 7 = .ok (.iload_n 1, 1) := by decide +kernel
theorem dX11_isRaised_8 : decode cX11_isRaised 8 = .ok (.ishr, 1) := by decide +kernel
theorem dX11_isRaised_9 : decode cX11_isRaised 9 = .ok (.iconst 1, 1) := by decide +kernel
theorem dX11_isRaised_10 : decode cX11_isRaised 10 = .ok (.iand, 1) := by decide +kernel
theorem dX11_isRaised_11 : decode cX11_isRaised 11 = .ok (.ifCond .eq 7, 3) := by decide +kernel
theorem dX11_isRaised_18 : decode cX11_isRaised 18 = .ok (.iconst 0, 1) := by decide +kernel
theorem dX11_isRaised_19 : decode cX11_isRaised 19 = .ok (.ireturn, 1) := by decide +kernel
def v_X11_isRaised : List Cond := .code yX11_isRaised cX11_isRaised 2 (some .boolean) :: ([.fieldLink RX11 10 "RestBoard" "now" "LRestBoard$State;", .fieldLink RX11 187 "RestBoard$State" "raised" "I"] ++ wsX110 ++ wsX80)
theorem m_X11_isRaised_0 : (.fieldLink RX11 10 "RestBoard" "now" "LRestBoard$State;" : Cond) ∈ v_X11_isRaised := List.mem_of_getElem? (i := 1) (by decide +kernel)
theorem m_X11_isRaised_1 : (.fieldLink RX11 187 "RestBoard$State" "raised" "I" : Cond) ∈ v_X11_isRaised := List.mem_of_getElem? (i := 2) (by decide +kernel)
theorem i_X11_isRaised_X11 : ∀ w ∈ u_ws RX11 TX11 11, w ∈ v_X11_isRaised := fun w h => List.mem_cons_of_mem _ (List.mem_append_left _ (List.mem_append_right _ h))
theorem i_X11_isRaised_X8 : ∀ w ∈ u_ws RX8 TX8 17, w ∈ v_X11_isRaised := fun w h => List.mem_cons_of_mem _ (List.mem_append_right _ h)
set_option maxHeartbeats 4000000 in
set_option maxRecDepth 100000 in
theorem c_X11_isRaised (l : Launch) (dC : Nat → ClassId) (dI : Nat → Nat → Nat) (cy : Nat → ClassId) (a : Nat → Nat) (g : Nat → Nat → Option Nat) (p0 : Int32) : Met l yX11_isRaised v_X11_isRaised ({ frames := 0, cells := 0, slots := 0, locals := 0 }) (va_Pc [.ref (a 0), .int p0] (pp dC dI cy (fw a cy g))) (va_Qi (fun (r : Int32) (_ : Unit) => r = 0) (fun _ _ => True) (fun _ => False)) 0 0 (fun _ => False) := by
  refine Met.ofW (cc := cX11_isRaised) (maxL := 2) (ret := (some .boolean)) (by decide) rfl ?_
  intro p e s m args below meth c s₁ B hml hv
  obtain ⟨rfl, hP, hC⟩ := hv
  have hK := hC.1
  have hx := B.exec
  have hb := B.bytes
  have hr := B.returns
  have hts := atoms_spec (ws := v_X11_isRaised) B.pre
  have hown : s.vm.findClass RX11 = some m.cls := findClass_of_methodNamed B.named
  have hlocks := B.notSynchronized
  have hS : va_S (fun _ => False) s.heap s.heap [] := va_S.rf
  have hl := lv_entry ([.ref (a 0), .int p0]) (n := 2) (Nat.le_of_ble_eq_true rfl)
  rw [lg_entry_eq]
  generalize (lg_sl ([.ref (a 0), .int p0]) ++ List.replicate (2 - (lg_sl ([.ref (a 0), .int p0])).length) Slot.unset).toArray = ls at hl ⊢
  have hl : lv_has ls 2 [(0, .ref (a 0)), (1, .int p0)] := hl
  refine lv_aload_n hx hb dX11_isRaised_0 rfl (lv_at hl 0 rfl) ?_
  refine va_get (D := (dC, dI)) (ci := 11) (v := .ref (a 1)) (C := RX11) (T := TX11) (N := 11) hx hb hts i_X11_isRaised_X11 hown hK hP 0 rfl rfl 0 (by decide) (hts _ m_X11_isRaised_0) (fun _ h9 => h9) rfl dX11_isRaised_1 ?_
  refine va_get (D := (dC, dI)) (ci := 8) (v := .int 0) (C := RX8) (T := TX8) (N := 17) hx hb hts i_X11_isRaised_X8 hown hK hP 1 rfl rfl 2 (by decide) (hts _ m_X11_isRaised_1) (fun _ h9 => h9) rfl dX11_isRaised_4 ?_
  refine lv_iload_n hx hb dX11_isRaised_7 rfl (lv_at hl 1 rfl) ?_
  refine lv_ishr hx hb dX11_isRaised_8 ?_
  refine tk_i 0 (sh_0 _) ?_
  refine lv_iconst (v := 1) hx hb dX11_isRaised_9 (by decide) ?_
  refine lv_iand hx hb dX11_isRaised_10 ?_
  refine tk_i 0 (by decide) ?_
  refine lv_if_eq (tgt := 18) hx hb dX11_isRaised_11 (by decide) (fun _ => ?_) (fun c9_ => absurd (by decide) c9_)
  refine lv_iconst (v := 0) hx hb dX11_isRaised_18 (by decide) ?_
  exact W.zret (v := 0) (ty := .boolean) hx hb hr rfl (fun t ht hW => ⟨⟨0, (), rfl, rfl, trivial⟩, hS.F ht⟩) hS.2.2 dX11_isRaised_19

theorem dX7_numberOf_0 : decode cX7_numberOf 0 = .ok (.aload_n 0, 1) := by decide +kernel
theorem dX7_numberOf_1 : decode cX7_numberOf 1 = .ok (.getfield 15, 3) := by decide +kernel
theorem dX7_numberOf_4 : decode cX7_numberOf 4 = .ok (.iconst 0, 1) := by decide +kernel
theorem dX7_numberOf_5 : decode cX7_numberOf 5 = .ok (.bipush 105, 2) := by decide +kernel
theorem dX7_numberOf_7 : decode cX7_numberOf 7 = .ok (.iload_n 1, 1) := by decide +kernel
theorem dX7_numberOf_8 : decode cX7_numberOf 8 = .ok (.iadd, 1) := by decide +kernel
theorem dX7_numberOf_9 : decode cX7_numberOf 9 = .ok (.iconst 1, 1) := by decide +kernel
theorem dX7_numberOf_10 : decode cX7_numberOf 10 = .ok (.isub, 1) := by decide +kernel
theorem dX7_numberOf_11 : decode cX7_numberOf 11 = .ok (.iconst 4, 1) := by decide +kernel
theorem dX7_numberOf_12 : decode cX7_numberOf 12 = .ok (.invokevirtual 73, 3) := by decide +kernel
theorem dX7_numberOf_15 : decode cX7_numberOf 15 = .ok (.ireturn, 1) := by decide +kernel
def v_X7_numberOf : List Cond := .code yX7_numberOf cX7_numberOf 2 (some .int) :: ([.fieldLink RX7 15 "RestBoard$Rests" "tree" "LRestBoard$Tree;", .methodLink RX7 73 yX10_own, .instanceMethod yX10_own, .selects RX10 yX10_own yX10_own, .initialized RX10, .code yX10_own cX10_own 5 (some .int), .fieldLink RX10 17 "RestBoard$Tree" "now" "LRestBoard$State;", .fieldLink RX10 26 "RestBoard$State" "size" "I", .methodLink RX10 49 yX10_child, .instanceMethod yX10_child, .selects RX10 yX10_child yX10_child, .code yX10_child cX10_child 5 (some .int)] ++ wsX70 ++ wsX100 ++ wsX80)
theorem m_X7_numberOf_0 : (.fieldLink RX7 15 "RestBoard$Rests" "tree" "LRestBoard$Tree;" : Cond) ∈ v_X7_numberOf := List.mem_of_getElem? (i := 1) (by decide +kernel)
theorem i_X7_numberOf_X7 : ∀ w ∈ u_ws RX7 TX7 5, w ∈ v_X7_numberOf := fun w h => List.mem_cons_of_mem _ (List.mem_append_left _ (List.mem_append_left _ (List.mem_append_right _ h)))
set_option maxRecDepth 100000 in
theorem gg_X7_numberOf_X10_own_73 : GoodIn v_X7_numberOf v_X10_own := goodIn_r _ [6, 7, 8, 9, 10, 11, 5, 12, 18, 19, 20, 21, 22, 23, 24, 25, 26, 27, 28, 29, 30, 31, 32, 33, 34, 35, 36] (by decide +kernel) (by decide +kernel)
set_option maxRecDepth 100000 in
theorem g_X7_numberOf_X10_own_73 : GoodIn v_X7_numberOf (wsV RX7 73 RX10 yX10_own v_X10_own) := goodIn_app (goodIn_r _ [2, 3, 4, 5] (by decide +kernel) (by decide +kernel)) gg_X7_numberOf_X10_own_73
set_option maxHeartbeats 4000000 in
set_option maxRecDepth 100000 in
theorem c_X7_numberOf (l : Launch) (dC : Nat → ClassId) (dI : Nat → Nat → Nat) (cy : Nat → ClassId) (a : Nat → Nat) (g : Nat → Nat → Option Nat) (p0 : Int32) : Met l yX7_numberOf v_X7_numberOf ({ frames := 2, cells := 0, slots := 0, locals := 48 }) (va_Pc [.ref (a 31), .int p0] (pp dC dI cy (fw a cy g))) (va_Qi (fun (r : Int32) (_ : Unit) => r = (-1)) (fun _ _ => True) (fun _ => False)) 0 0 (fun _ => False) := by
  refine Met.ofW (cc := cX7_numberOf) (maxL := 2) (ret := (some .int)) (by decide) rfl ?_
  intro p e s m args below meth c s₁ B hml hv
  obtain ⟨rfl, hP, hC⟩ := hv
  have hK := hC.1
  have hx := B.exec
  have hb := B.bytes
  have hr := B.returns
  have hts := atoms_spec (ws := v_X7_numberOf) B.pre
  have hown : s.vm.findClass RX7 = some m.cls := findClass_of_methodNamed B.named
  have hlocks := B.notSynchronized
  have hS : va_S (fun _ => False) s.heap s.heap [] := va_S.rf
  have hl := lv_entry ([.ref (a 31), .int p0]) (n := 2) (Nat.le_of_ble_eq_true rfl)
  rw [lg_entry_eq]
  generalize (lg_sl ([.ref (a 31), .int p0]) ++ List.replicate (2 - (lg_sl ([.ref (a 31), .int p0])).length) Slot.unset).toArray = ls at hl ⊢
  have hl : lv_has ls 2 [(0, .ref (a 31)), (1, .int p0)] := hl
  refine lv_aload_n hx hb dX7_numberOf_0 rfl (lv_at hl 0 rfl) ?_
  refine va_get (D := (dC, dI)) (ci := 7) (v := .ref (a 21)) (C := RX7) (T := TX7) (N := 5) hx hb hts i_X7_numberOf_X7 hown hK hP 31 rfl rfl 0 (by decide) (hts _ m_X7_numberOf_0) (fun _ h9 => h9) rfl dX7_numberOf_1 ?_
  refine lv_iconst (v := 0) hx hb dX7_numberOf_4 (by decide) ?_
  refine lv_bipush (v := 105) hx hb dX7_numberOf_5 (by decide) ?_
  refine lv_iload_n hx hb dX7_numberOf_7 rfl (lv_at hl 1 rfl) ?_
  refine lv_iadd hx hb dX7_numberOf_8 ?_
  refine lv_iconst (v := 1) hx hb dX7_numberOf_9 (by decide) ?_
  refine lv_isub hx hb dX7_numberOf_10 ?_
  refine lv_iconst (v := 4) hx hb dX7_numberOf_11 (by decide) ?_
  refine tk_pi (va_runV (As := [.int 0, .int (((105 : Int32) + p0) - 1), .int 4]) (rest := []) ⟨hx, hb, hml, hown, hts⟩ (c_X10_own l dC dI cy a g (((105 : Int32) + p0) - 1) 4) (cwV 3 hts g_X7_numberOf_X10_own_73 rfl rfl rfl (by decide +kernel) ⟨Nat.le_of_ble_eq_true rfl, Nat.le_of_ble_eq_true rfl⟩) (pv_pp hC hP (ci := 10) (q0 := 21) rfl rfl) rfl rfl hl.1 rfl (lv_room (Nat.le_of_ble_eq_true rfl)) dX7_numberOf_12 ⟨Nat.le_of_ble_eq_true rfl, Nat.le_of_ble_eq_true rfl⟩) hP hS (fun r_ H locs hw hP hS => ?_)
  subst hw
  exact W.iret (v := (-1)) hx hb hr (fun t ht hW => ⟨⟨(-1), (), rfl, rfl, trivial⟩, hS.F ht⟩) hS.2.2 dX7_numberOf_15

theorem dX7_obstacle_0 : decode cX7_obstacle 0 = .ok (.aload_n 0, 1) := by decide +kernel
theorem dX7_obstacle_1 : decode cX7_obstacle 1 = .ok (.iload_n 1, 1) := by decide +kernel
theorem dX7_obstacle_2 : decode cX7_obstacle 2 = .ok (.invokevirtual 31, 3) := by decide +kernel
theorem dX7_obstacle_5 : decode cX7_obstacle 5 = .ok (.iconst (-1), 1) := by decide +kernel
theorem dX7_obstacle_6 : decode cX7_obstacle 6 = .ok (.if_icmp .ne 5, 3) := by decide +kernel
theorem dX7_obstacle_9 : decode cX7_obstacle 9 = .ok (.iconst 1, 1) := by decide +kernel
theorem dX7_obstacle_10 : decode cX7_obstacle 10 = .ok (.ireturn, 1) := by decide +kernel
def v_X7_obstacle : List Cond := .code yX7_obstacle cX7_obstacle 4 (some .int) :: ([.methodLink RX7 31 yX7_numberOf, .instanceMethod yX7_numberOf, .selects RX7 yX7_numberOf yX7_numberOf, .initialized RX7, .code yX7_numberOf cX7_numberOf 2 (some .int), .fieldLink RX7 15 "RestBoard$Rests" "tree" "LRestBoard$Tree;", .methodLink RX7 73 yX10_own, .instanceMethod yX10_own, .selects RX10 yX10_own yX10_own, .initialized RX10, .code yX10_own cX10_own 5 (some .int), .fieldLink RX10 17 "RestBoard$Tree" "now" "LRestBoard$State;", .fieldLink RX10 26 "RestBoard$State" "size" "I", .methodLink RX10 49 yX10_child, .instanceMethod yX10_child, .selects RX10 yX10_child yX10_child, .code yX10_child cX10_child 5 (some .int)] ++ wsX70 ++ wsX100 ++ wsX80)
set_option maxRecDepth 100000 in
theorem gg_X7_obstacle_X7_numberOf_31 : GoodIn v_X7_obstacle v_X7_numberOf := goodIn_r _ [5, 6, 7, 8, 9, 10, 11, 12, 13, 14, 15, 16, 17, 18, 19, 20, 21, 22, 23, 24, 25, 26, 27, 28, 29, 30, 31, 32, 33, 34, 35, 36, 37, 38, 39, 40, 41] (by decide +kernel) (by decide +kernel)
set_option maxRecDepth 100000 in
theorem g_X7_obstacle_X7_numberOf_31 : GoodIn v_X7_obstacle (wsV RX7 31 RX7 yX7_numberOf v_X7_numberOf) := goodIn_app (goodIn_r _ [1, 2, 3, 4] (by decide +kernel) (by decide +kernel)) gg_X7_obstacle_X7_numberOf_31
set_option maxHeartbeats 4000000 in
set_option maxRecDepth 100000 in
theorem c_X7_obstacle (l : Launch) (dC : Nat → ClassId) (dI : Nat → Nat → Nat) (cy : Nat → ClassId) (a : Nat → Nat) (g : Nat → Nat → Option Nat) (p0 : Int32) : Met l yX7_obstacle v_X7_obstacle ({ frames := 3, cells := 0, slots := 0, locals := 69 }) (va_Pc [.ref (a 31), .int p0] (pp dC dI cy (fw a cy g))) (va_Qi (fun (r : Int32) (_ : Unit) => r = 1) (fun _ _ => True) (fun _ => False)) 0 0 (fun _ => False) := by
  refine Met.ofW (cc := cX7_obstacle) (maxL := 4) (ret := (some .int)) (by decide) rfl ?_
  intro p e s m args below meth c s₁ B hml hv
  obtain ⟨rfl, hP, hC⟩ := hv
  have hK := hC.1
  have hx := B.exec
  have hb := B.bytes
  have hr := B.returns
  have hts := atoms_spec (ws := v_X7_obstacle) B.pre
  have hown : s.vm.findClass RX7 = some m.cls := findClass_of_methodNamed B.named
  have hlocks := B.notSynchronized
  have hS : va_S (fun _ => False) s.heap s.heap [] := va_S.rf
  have hl := lv_entry ([.ref (a 31), .int p0]) (n := 4) (Nat.le_of_ble_eq_true rfl)
  rw [lg_entry_eq]
  generalize (lg_sl ([.ref (a 31), .int p0]) ++ List.replicate (4 - (lg_sl ([.ref (a 31), .int p0])).length) Slot.unset).toArray = ls at hl ⊢
  have hl : lv_has ls 4 [(0, .ref (a 31)), (1, .int p0)] := hl
  refine lv_aload_n hx hb dX7_obstacle_0 rfl (lv_at hl 0 rfl) ?_
  refine lv_iload_n hx hb dX7_obstacle_1 rfl (lv_at hl 1 rfl) ?_
  refine tk_pi (va_runV (As := [.int p0]) (rest := []) ⟨hx, hb, hml, hown, hts⟩ (c_X7_numberOf l dC dI cy a g p0) (cwV 1 hts g_X7_obstacle_X7_numberOf_31 rfl rfl rfl (by decide +kernel) ⟨Nat.le_of_ble_eq_true rfl, Nat.le_of_ble_eq_true rfl⟩) (pv_pp hC hP (ci := 7) (q0 := 31) rfl rfl) rfl rfl hl.1 rfl (lv_room (Nat.le_of_ble_eq_true rfl)) dX7_obstacle_2 ⟨Nat.le_of_ble_eq_true rfl, Nat.le_of_ble_eq_true rfl⟩) hP hS (fun r_ H locs hw hP hS => ?_)
  subst hw
  refine lv_iconst (v := (-1)) hx hb dX7_obstacle_5 (by decide) ?_
  refine lv_icmp_ne (tgt := 11) hx hb dX7_obstacle_6 (by decide) (fun c9_ => absurd (by decide) c9_) (fun _ => ?_)
  refine lv_iconst (v := 1) hx hb dX7_obstacle_9 (by decide) ?_
  exact W.iret (v := 1) hx hb hr (fun t ht hW => ⟨⟨1, (), rfl, rfl, trivial⟩, hS.F ht⟩) hS.2.2 dX7_obstacle_10

theorem dX7_mostAbove_0 : decode cX7_mostAbove 0 = .ok (.iconst 0, 1) := by decide +kernel
theorem dX7_mostAbove_1 : decode cX7_mostAbove 1 = .ok (.istore_n 1, 1) := by decide +kernel
theorem dX7_mostAbove_2 : decode cX7_mostAbove 2 = .ok (.iconst 0, 1) := by decide +kernel
theorem dX7_mostAbove_3 : decode cX7_mostAbove 3 = .ok (.istore_n 2, 1) := by decide +kernel
theorem dX7_mostAbove_4 : decode cX7_mostAbove 4 = .ok (.iload_n 2, 1) := by decide +kernel
theorem dX7_mostAbove_5 : decode cX7_mostAbove 5 = .ok (.aload_n 0, 1) := by decide +kernel
theorem dX7_mostAbove_6 : decode cX7_mostAbove 6 = .ok (.getfield 19, 3) := by decide +kernel
theorem dX7_mostAbove_9 : decode cX7_mostAbove 9 = .ok (.getfield 35, 3) := by decide +kernel
theorem dX7_mostAbove_12 : decode cX7_mostAbove 12 = .ok (.if_icmp .ge 26, 3) := by decide +kernel
theorem dX7_mostAbove_15 : decode cX7_mostAbove 15 = .ok (.iload_n 1, 1) := by decide +kernel
theorem dX7_mostAbove_16 : decode cX7_mostAbove 16 = .ok (.aload_n 0, 1) := by decide +kernel
theorem dX7_mostAbove_17 : decode cX7_mostAbove 17 = .ok (.getfield 15, 3) := by decide +kernel
theorem dX7_mostAbove_20 : decode cX7_mostAbove 20 = .ok (.getfield 59, 3) := by decide +kernel
theorem dX7_mostAbove_23 : decode cX7_mostAbove 23 = .ok (.iload_n 2, 1) := by decide +kernel
theorem dX7_mostAbove_24 : decode cX7_mostAbove 24 = .ok (.aaload, 1) := by decide +kernel
theorem dX7_mostAbove_25 : decode cX7_mostAbove 25 = .ok (.getfield 87, 3) := by decide +kernel
theorem dX7_mostAbove_28 : decode cX7_mostAbove 28 = .ok (.invokestatic 90, 3) := by decide +kernel
theorem dX7_mostAbove_31 : decode cX7_mostAbove 31 = .ok (.istore_n 1, 1) := by decide +kernel
theorem dX7_mostAbove_32 : decode cX7_mostAbove 32 = .ok (.iinc 2 1, 3) := by decide +kernel
theorem dX7_mostAbove_35 : decode cX7_mostAbove 35 = .ok (.goto (-31), 3) := by decide +kernel
theorem dX7_mostAbove_38 : decode cX7_mostAbove 38 = .ok (.iload_n 1, 1) := by decide +kernel
theorem dX7_mostAbove_39 : decode cX7_mostAbove 39 = .ok (.ireturn, 1) := by decide +kernel
def v_X7_mostAbove : List Cond := .code yX7_mostAbove cX7_mostAbove 3 (some .int) :: ([.fieldLink RX7 19 "RestBoard$Rests" "now" "LRestBoard$State;", .fieldLink RX7 35 "RestBoard$State" "size" "I", .fieldLink RX7 15 "RestBoard$Rests" "tree" "LRestBoard$Tree;", .fieldLink RX7 59 "RestBoard$Tree" "nodes" "[LRestBoard$Node;", .fieldLink RX7 87 "RestBoard$Node" "above" "I", .methodLink RX7 90 Lib.Math.max.name, .static Lib.Math.max.name, .initialized "java/lang/Math", .code Lib.Math.max.name Lib.Math.max.code 2 (some .int)] ++ wsX70 ++ wsX80 ++ wsX100 ++ wsX40)
theorem m_X7_mostAbove_0 : (.fieldLink RX7 19 "RestBoard$Rests" "now" "LRestBoard$State;" : Cond) ∈ v_X7_mostAbove := List.mem_of_getElem? (i := 1) (by decide +kernel)
theorem m_X7_mostAbove_1 : (.fieldLink RX7 35 "RestBoard$State" "size" "I" : Cond) ∈ v_X7_mostAbove := List.mem_of_getElem? (i := 2) (by decide +kernel)
theorem m_X7_mostAbove_2 : (.fieldLink RX7 15 "RestBoard$Rests" "tree" "LRestBoard$Tree;" : Cond) ∈ v_X7_mostAbove := List.mem_of_getElem? (i := 3) (by decide +kernel)
theorem m_X7_mostAbove_3 : (.fieldLink RX7 59 "RestBoard$Tree" "nodes" "[LRestBoard$Node;" : Cond) ∈ v_X7_mostAbove := List.mem_of_getElem? (i := 4) (by decide +kernel)
theorem m_X7_mostAbove_4 : (.fieldLink RX7 87 "RestBoard$Node" "above" "I" : Cond) ∈ v_X7_mostAbove := List.mem_of_getElem? (i := 5) (by decide +kernel)
theorem m_X7_mostAbove_5 : (.methodLink RX7 90 Lib.Math.max.name : Cond) ∈ v_X7_mostAbove := List.mem_of_getElem? (i := 6) (by decide +kernel)
theorem m_X7_mostAbove_6 : (.static Lib.Math.max.name : Cond) ∈ v_X7_mostAbove := List.mem_of_getElem? (i := 7) (by decide +kernel)
theorem m_X7_mostAbove_7 : (.initialized "java/lang/Math" : Cond) ∈ v_X7_mostAbove := List.mem_of_getElem? (i := 8) (by decide +kernel)
theorem m_X7_mostAbove_8 : (.code Lib.Math.max.name Lib.Math.max.code 2 (some .int) : Cond) ∈ v_X7_mostAbove := List.mem_of_getElem? (i := 9) (by decide +kernel)
theorem i_X7_mostAbove_X7 : ∀ w ∈ u_ws RX7 TX7 5, w ∈ v_X7_mostAbove := fun w h => List.mem_cons_of_mem _ (List.mem_append_left _ (List.mem_append_left _ (List.mem_append_left _ (List.mem_append_right _ h))))
theorem i_X7_mostAbove_X8 : ∀ w ∈ u_ws RX8 TX8 17, w ∈ v_X7_mostAbove := fun w h => List.mem_cons_of_mem _ (List.mem_append_left _ (List.mem_append_left _ (List.mem_append_right _ h)))
theorem i_X7_mostAbove_X10 : ∀ w ∈ u_ws RX10 TX10 2, w ∈ v_X7_mostAbove := fun w h => List.mem_cons_of_mem _ (List.mem_append_left _ (List.mem_append_right _ h))
theorem i_X7_mostAbove_X4 : ∀ w ∈ u_ws RX4 TX4 14, w ∈ v_X7_mostAbove := fun w h => List.mem_cons_of_mem _ (List.mem_append_right _ h)
set_option maxHeartbeats 4000000 in
set_option maxRecDepth 100000 in
theorem c_X7_mostAbove (l : Launch) (dC : Nat → ClassId) (dI : Nat → Nat → Nat) (cy : Nat → ClassId) (a : Nat → Nat) (g : Nat → Nat → Option Nat) : Met l yX7_mostAbove v_X7_mostAbove ({ frames := 1, cells := 0, slots := 0, locals := 14 }) (va_Pc [.ref (a 31)] (pp dC dI cy (fw a cy g))) (va_Qi (fun (r : Int32) (_ : Unit) => r = 0) (fun _ _ => True) (fun _ => False)) 0 0 (fun _ => False) := by
  refine Met.ofW (cc := cX7_mostAbove) (maxL := 3) (ret := (some .int)) (by decide) rfl ?_
  intro p e s m args below meth c s₁ B hml hv
  obtain ⟨rfl, hP, hC⟩ := hv
  have hK := hC.1
  have hx := B.exec
  have hb := B.bytes
  have hr := B.returns
  have hts := atoms_spec (ws := v_X7_mostAbove) B.pre
  have hown : s.vm.findClass RX7 = some m.cls := findClass_of_methodNamed B.named
  have hlocks := B.notSynchronized
  have hS : va_S (fun _ => False) s.heap s.heap [] := va_S.rf
  have hl := lv_entry ([.ref (a 31)]) (n := 3) (Nat.le_of_ble_eq_true rfl)
  rw [lg_entry_eq]
  generalize (lg_sl ([.ref (a 31)]) ++ List.replicate (3 - (lg_sl ([.ref (a 31)])).length) Slot.unset).toArray = ls at hl ⊢
  have hl : lv_has ls 3 [(0, .ref (a 31))] := hl
  refine lv_iconst (v := 0) hx hb dX7_mostAbove_0 (by decide) ?_
  refine lv_istore_n (lv' := [(1, .int 0), (0, .ref (a 31))]) hx hb dX7_mostAbove_1 rfl hl (by decide) rfl (fun ls hl => ?_)
  refine lv_iconst (v := 0) hx hb dX7_mostAbove_2 (by decide) ?_
  refine lv_istore_n (lv' := [(2, .int 0), (1, .int 0), (0, .ref (a 31))]) hx hb dX7_mostAbove_3 rfl hl (by decide) rfl (fun ls hl => ?_)
  refine lv_iload_n hx hb dX7_mostAbove_4 rfl (lv_at hl 0 rfl) ?_
  refine lv_aload_n hx hb dX7_mostAbove_5 rfl (lv_at hl 2 rfl) ?_
  refine va_get (D := (dC, dI)) (ci := 7) (v := .ref (a 1)) (C := RX7) (T := TX7) (N := 5) hx hb hts i_X7_mostAbove_X7 hown hK hP 31 rfl rfl 1 (by decide) (hts _ m_X7_mostAbove_0) (fun _ h9 => h9) rfl dX7_mostAbove_6 ?_
  refine va_get (D := (dC, dI)) (ci := 8) (v := .int 1) (C := RX8) (T := TX8) (N := 17) hx hb hts i_X7_mostAbove_X8 hown hK hP 1 rfl rfl 0 (by decide) (hts _ m_X7_mostAbove_1) (fun _ h9 => h9) rfl dX7_mostAbove_9 ?_
  refine lv_icmp_ge (tgt := 38) hx hb dX7_mostAbove_12 (by decide) (fun c9_ => absurd c9_ (by decide)) (fun _ => ?_)
  refine lv_iload_n hx hb dX7_mostAbove_15 rfl (lv_at hl 1 rfl) ?_
  refine lv_aload_n hx hb dX7_mostAbove_16 rfl (lv_at hl 2 rfl) ?_
  refine va_get (D := (dC, dI)) (ci := 7) (v := .ref (a 21)) (C := RX7) (T := TX7) (N := 5) hx hb hts i_X7_mostAbove_X7 hown hK hP 31 rfl rfl 0 (by decide) (hts _ m_X7_mostAbove_2) (fun _ h9 => h9) rfl dX7_mostAbove_17 ?_
  refine va_get (D := (dC, dI)) (ci := 10) (v := .ref (a 22)) (C := RX10) (T := TX10) (N := 2) hx hb hts i_X7_mostAbove_X10 hown hK hP 21 rfl rfl 0 (by decide) (hts _ m_X7_mostAbove_3) (fun _ h9 => h9) rfl dX7_mostAbove_20 ?_
  refine lv_iload_n hx hb dX7_mostAbove_23 rfl (lv_at hl 0 rfl) ?_
  refine va_aldq hx hb hK hP 22 1 rfl rfl (show ¬ ((0 : Int32) < 0 ∨ 32 ≤ Int32.toNatClampNeg 0) by decide) dX7_mostAbove_24 ?_
  refine tk_v (.ref (a 23)) (by rfl) ?_
  refine va_get (D := (dC, dI)) (ci := 4) (v := .int 0) (C := RX4) (T := TX4) (N := 14) hx hb hts i_X7_mostAbove_X4 hown hK hP 23 rfl rfl 3 (by decide) (hts _ m_X7_mostAbove_4) (fun _ h9 => h9) rfl dX7_mostAbove_25 ?_
  refine va_mmax hx hb (hml.trans hl.1.symm) hown (hts _ m_X7_mostAbove_5) (hts _ m_X7_mostAbove_6) (hts _ m_X7_mostAbove_7) (hts _ m_X7_mostAbove_8) (Nat.le_of_ble_eq_true rfl) (Nat.le_of_ble_eq_true rfl) (Nat.le_of_ble_eq_true rfl) (Nat.le_of_ble_eq_true rfl) dX7_mostAbove_28 ?_
  refine tk_i 0 (by decide) ?_
  refine lv_istore_n (lv' := [(1, .int 0), (2, .int 0), (0, .ref (a 31))]) hx hb dX7_mostAbove_31 rfl hl (by decide) rfl (fun ls hl => ?_)
  refine lv_iinc (v := 1) (lv' := [(2, .int 1), (1, .int 0), (0, .ref (a 31))]) hx hb dX7_mostAbove_32 hl (k := 1) rfl (by decide) (by decide) rfl (fun ls hl => ?_)
  refine lv_goto (tgt := 4) hx hb dX7_mostAbove_35 (by decide) ?_
  refine lv_iload_n hx hb dX7_mostAbove_4 rfl (lv_at hl 0 rfl) ?_
  refine lv_aload_n hx hb dX7_mostAbove_5 rfl (lv_at hl 2 rfl) ?_
  refine va_get (D := (dC, dI)) (ci := 7) (v := .ref (a 1)) (C := RX7) (T := TX7) (N := 5) hx hb hts i_X7_mostAbove_X7 hown hK hP 31 rfl rfl 1 (by decide) (hts _ m_X7_mostAbove_0) (fun _ h9 => h9) rfl dX7_mostAbove_6 ?_
  refine va_get (D := (dC, dI)) (ci := 8) (v := .int 1) (C := RX8) (T := TX8) (N := 17) hx hb hts i_X7_mostAbove_X8 hown hK hP 1 rfl rfl 0 (by decide) (hts _ m_X7_mostAbove_1) (fun _ h9 => h9) rfl dX7_mostAbove_9 ?_
  refine lv_icmp_ge (tgt := 38) hx hb dX7_mostAbove_12 (by decide) (fun _ => ?_) (fun c9_ => absurd (by decide) c9_)
  refine lv_iload_n hx hb dX7_mostAbove_38 rfl (lv_at hl 1 rfl) ?_
  exact W.iret (v := 0) hx hb hr (fun t ht hW => ⟨⟨0, (), rfl, rfl, trivial⟩, hS.F ht⟩) hS.2.2 dX7_mostAbove_39

theorem dX7_sortDevices_0 : decode cX7_sortDevices 0 = .ok (.iconst 0, 1) := by decide +kernel
theorem dX7_sortDevices_1 : decode cX7_sortDevices 1 = .ok (.istore_n 1, 1) := by decide +kernel
theorem dX7_sortDevices_2 : decode cX7_sortDevices 2 = .ok (.aload_n 0, 1) := by decide +kernel
theorem dX7_sortDevices_3 : decode cX7_sortDevices 3 = .ok (.invokevirtual 81, 3) := by decide +kernel
theorem dX7_sortDevices_6 : decode cX7_sortDevices 6 = .ok (.istore_n 2, 1) := by decide +kernel
theorem dX7_sortDevices_7 : decode cX7_sortDevices 7 = .ok (.iload_n 2, 1) := by decide +kernel
theorem dX7_sortDevices_8 : decode cX7_sortDevices 8 = .ok (.ifCond .le 71, 3) := by decide +kernel
theorem dX7_sortDevices_79 : decode cX7_sortDevices 79 = .ok (.iload_n 1, 1) := by decide +kernel
theorem dX7_sortDevices_80 : decode cX7_sortDevices 80 = .ok (.ireturn, 1) := by decide +kernel
def v_X7_sortDevices : List Cond := .code yX7_sortDevices cX7_sortDevices 4 (some .int) :: ([.methodLink RX7 81 yX7_mostAbove, .instanceMethod yX7_mostAbove, .selects RX7 yX7_mostAbove yX7_mostAbove, .initialized RX7, .code yX7_mostAbove cX7_mostAbove 3 (some .int), .fieldLink RX7 19 "RestBoard$Rests" "now" "LRestBoard$State;", .fieldLink RX7 35 "RestBoard$State" "size" "I", .fieldLink RX7 15 "RestBoard$Rests" "tree" "LRestBoard$Tree;", .fieldLink RX7 59 "RestBoard$Tree" "nodes" "[LRestBoard$Node;", .fieldLink RX7 87 "RestBoard$Node" "above" "I", .methodLink RX7 90 Lib.Math.max.name, .static Lib.Math.max.name, .initialized "java/lang/Math", .code Lib.Math.max.name Lib.Math.max.code 2 (some .int)] ++ wsX70 ++ wsX80 ++ wsX100 ++ wsX40)
set_option maxRecDepth 100000 in
theorem gg_X7_sortDevices_X7_mostAbove_81 : GoodIn v_X7_sortDevices v_X7_mostAbove := goodIn_r _ [5, 6, 7, 8, 9, 10, 11, 12, 13, 14, 15, 16, 17, 18, 19, 20, 21, 22, 23, 24, 25, 26, 27, 28, 29, 30, 31, 32, 33, 34, 35, 36, 37, 38, 39, 40, 41, 42, 43, 44, 45, 46, 47, 48, 49, 50, 51, 52] (by decide +kernel) (by decide +kernel)
set_option maxRecDepth 100000 in
theorem g_X7_sortDevices_X7_mostAbove_81 : GoodIn v_X7_sortDevices (wsV RX7 81 RX7 yX7_mostAbove v_X7_mostAbove) := goodIn_app (goodIn_r _ [1, 2, 3, 4] (by decide +kernel) (by decide +kernel)) gg_X7_sortDevices_X7_mostAbove_81
set_option maxHeartbeats 4000000 in
set_option maxRecDepth 100000 in
theorem c_X7_sortDevices (l : Launch) (dC : Nat → ClassId) (dI : Nat → Nat → Nat) (cy : Nat → ClassId) (a : Nat → Nat) (g : Nat → Nat → Option Nat) : Met l yX7_sortDevices v_X7_sortDevices ({ frames := 2, cells := 0, slots := 0, locals := 36 }) (va_Pc [.ref (a 31)] (pp dC dI cy (fw a cy g))) (va_Qi (fun (r : Int32) (_ : Unit) => r = 0) (fun _ _ => True) (fun _ => False)) 0 0 (fun _ => False) := by
  refine Met.ofW (cc := cX7_sortDevices) (maxL := 4) (ret := (some .int)) (by decide) rfl ?_
  intro p e s m args below meth c s₁ B hml hv
  obtain ⟨rfl, hP, hC⟩ := hv
  have hK := hC.1
  have hx := B.exec
  have hb := B.bytes
  have hr := B.returns
  have hts := atoms_spec (ws := v_X7_sortDevices) B.pre
  have hown : s.vm.findClass RX7 = some m.cls := findClass_of_methodNamed B.named
  have hlocks := B.notSynchronized
  have hS : va_S (fun _ => False) s.heap s.heap [] := va_S.rf
  have hl := lv_entry ([.ref (a 31)]) (n := 4) (Nat.le_of_ble_eq_true rfl)
  rw [lg_entry_eq]
  generalize (lg_sl ([.ref (a 31)]) ++ List.replicate (4 - (lg_sl ([.ref (a 31)])).length) Slot.unset).toArray = ls at hl ⊢
  have hl : lv_has ls 4 [(0, .ref (a 31))] := hl
  refine lv_iconst (v := 0) hx hb dX7_sortDevices_0 (by decide) ?_
  refine lv_istore_n (lv' := [(1, .int 0), (0, .ref (a 31))]) hx hb dX7_sortDevices_1 rfl hl (by decide) rfl (fun ls hl => ?_)
  refine lv_aload_n hx hb dX7_sortDevices_2 rfl (lv_at hl 1 rfl) ?_
  refine tk_pi (va_runV (As := []) (rest := []) ⟨hx, hb, hml, hown, hts⟩ (c_X7_mostAbove l dC dI cy a g) (cwV 0 hts g_X7_sortDevices_X7_mostAbove_81 rfl rfl rfl (by decide +kernel) ⟨Nat.le_of_ble_eq_true rfl, Nat.le_of_ble_eq_true rfl⟩) (pv_pp hC hP (ci := 7) (q0 := 31) rfl rfl) rfl rfl hl.1 rfl (lv_room (Nat.le_of_ble_eq_true rfl)) dX7_sortDevices_3 ⟨Nat.le_of_ble_eq_true rfl, Nat.le_of_ble_eq_true rfl⟩) hP hS (fun r_ H locs hw hP hS => ?_)
  subst hw
  refine lv_istore_n (lv' := [(2, .int 0), (1, .int 0), (0, .ref (a 31))]) hx hb dX7_sortDevices_6 rfl hl (by decide) rfl (fun ls hl => ?_)
  refine lv_iload_n hx hb dX7_sortDevices_7 rfl (lv_at hl 0 rfl) ?_
  refine lv_if_le (tgt := 79) hx hb dX7_sortDevices_8 (by decide) (fun _ => ?_) (fun c9_ => absurd (by decide) c9_)
  refine lv_iload_n hx hb dX7_sortDevices_79 rfl (lv_at hl 1 rfl) ?_
  exact W.iret (v := 0) hx hb hr (fun t ht hW => ⟨⟨0, (), rfl, rfl, trivial⟩, hS.F ht⟩) hS.2.2 dX7_sortDevices_80

theorem dX7_inTurn_0 : decode cX7_inTurn 0 = .ok (.aload_n 0, 1) := by decide +kernel
theorem dX7_inTurn_1 : decode cX7_inTurn 1 = .ok (.invokevirtual 77, 3) := by decide +kernel
theorem dX7_inTurn_4 : decode cX7_inTurn 4 = .ok (.istore_n 2, 1) := by decide +kernel
theorem dX7_inTurn_5 : decode cX7_inTurn 5 = .ok (.iload_n 1, 1) := by decide +kernel
theorem dX7_inTurn_6 : decode cX7_inTurn 6 = .ok (.ifCond .lt 17, 3) := by decide +kernel
theorem dX7_inTurn_9 : decode cX7_inTurn 9 = .ok (.iload_n 1, 1) := by decide +kernel
theorem dX7_inTurn_10 : decode cX7_inTurn 10 = .ok (.iload_n 2, 1) := by decide +kernel
theorem dX7_inTurn_11 : decode cX7_inTurn 11 = .ok (.if_icmp .ge 12, 3) := by decide +kernel
theorem dX7_inTurn_23 : decode cX7_inTurn 23 = .ok (.iconst (-1), 1) := by decide +kernel
theorem dX7_inTurn_24 : decode cX7_inTurn 24 = .ok (.ireturn, 1) := by decide +kernel
def v_X7_inTurn : List Cond := .code yX7_inTurn cX7_inTurn 3 (some .int) :: ([.methodLink RX7 77 yX7_sortDevices, .instanceMethod yX7_sortDevices, .selects RX7 yX7_sortDevices yX7_sortDevices, .initialized RX7, .code yX7_sortDevices cX7_sortDevices 4 (some .int), .methodLink RX7 81 yX7_mostAbove, .instanceMethod yX7_mostAbove, .selects RX7 yX7_mostAbove yX7_mostAbove, .code yX7_mostAbove cX7_mostAbove 3 (some .int), .fieldLink RX7 19 "RestBoard$Rests" "now" "LRestBoard$State;", .fieldLink RX7 35 "RestBoard$State" "size" "I", .fieldLink RX7 15 "RestBoard$Rests" "tree" "LRestBoard$Tree;", .fieldLink RX7 59 "RestBoard$Tree" "nodes" "[LRestBoard$Node;", .fieldLink RX7 87 "RestBoard$Node" "above" "I", .methodLink RX7 90 Lib.Math.max.name, .static Lib.Math.max.name, .initialized "java/lang/Math", .code Lib.Math.max.name Lib.Math.max.code 2 (some .int)] ++ wsX70 ++ wsX80 ++ wsX100 ++ wsX40)
set_option maxRecDepth 100000 in
theorem gg_X7_inTurn_X7_sortDevices_77 : GoodIn v_X7_inTurn v_X7_sortDevices := goodIn_r _ [5, 6, 7, 8, 4, 9, 10, 11, 12, 13, 14, 15, 16, 17, 18, 19, 20, 21, 22, 23, 24, 25, 26, 27, 28, 29, 30, 31, 32, 33, 34, 35, 36, 37, 38, 39, 40, 41, 42, 43, 44, 45, 46, 47, 48, 49, 50, 51, 52, 53, 54, 55, 56] (by decide +kernel) (by decide +kernel)
set_option maxRecDepth 100000 in
theorem g_X7_inTurn_X7_sortDevices_77 : GoodIn v_X7_inTurn (wsV RX7 77 RX7 yX7_sortDevices v_X7_sortDevices) := goodIn_app (goodIn_r _ [1, 2, 3, 4] (by decide +kernel) (by decide +kernel)) gg_X7_inTurn_X7_sortDevices_77
set_option maxHeartbeats 4000000 in
set_option maxRecDepth 100000 in
theorem c_X7_inTurn (l : Launch) (dC : Nat → ClassId) (dI : Nat → Nat → Nat) (cy : Nat → ClassId) (a : Nat → Nat) (g : Nat → Nat → Option Nat) (p0 : Int32) : Met l yX7_inTurn v_X7_inTurn ({ frames := 3, cells := 0, slots := 0, locals := 59 }) (va_Pc [.ref (a 31), .int p0] (pp dC dI cy (fw a cy g))) (va_Qi (fun (r : Int32) (_ : Unit) => ((p0 < 0) ∧ r = (-1)) ∨ ((¬ p0 < 0) ∧ ((0 : Int32) ≤ p0) ∧ r = (-1))) (fun _ _ => True) (fun _ => False)) 0 0 (fun _ => False) := by
  refine Met.ofW (cc := cX7_inTurn) (maxL := 3) (ret := (some .int)) (by decide) rfl ?_
  intro p e s m args below meth c s₁ B hml hv
  obtain ⟨rfl, hP, hC⟩ := hv
  have hK := hC.1
  have hx := B.exec
  have hb := B.bytes
  have hr := B.returns
  have hts := atoms_spec (ws := v_X7_inTurn) B.pre
  have hown : s.vm.findClass RX7 = some m.cls := findClass_of_methodNamed B.named
  have hlocks := B.notSynchronized
  have hS : va_S (fun _ => False) s.heap s.heap [] := va_S.rf
  have hl := lv_entry ([.ref (a 31), .int p0]) (n := 3) (Nat.le_of_ble_eq_true rfl)
  rw [lg_entry_eq]
  generalize (lg_sl ([.ref (a 31), .int p0]) ++ List.replicate (3 - (lg_sl ([.ref (a 31), .int p0])).length) Slot.unset).toArray = ls at hl ⊢
  have hl : lv_has ls 3 [(0, .ref (a 31)), (1, .int p0)] := hl
  refine lv_aload_n hx hb dX7_inTurn_0 rfl (lv_at hl 0 rfl) ?_
  refine tk_pi (va_runV (As := []) (rest := []) ⟨hx, hb, hml, hown, hts⟩ (c_X7_sortDevices l dC dI cy a g) (cwV 0 hts g_X7_inTurn_X7_sortDevices_77 rfl rfl rfl (by decide +kernel) ⟨Nat.le_of_ble_eq_true rfl, Nat.le_of_ble_eq_true rfl⟩) (pv_pp hC hP (ci := 7) (q0 := 31) rfl rfl) rfl rfl hl.1 rfl (lv_room (Nat.le_of_ble_eq_true rfl)) dX7_inTurn_1 ⟨Nat.le_of_ble_eq_true rfl, Nat.le_of_ble_eq_true rfl⟩) hP hS (fun r_ H locs hw hP hS => ?_)
  subst hw
  refine lv_istore_n (lv' := [(2, .int 0), (0, .ref (a 31)), (1, .int p0)]) hx hb dX7_inTurn_4 rfl hl (by decide) rfl (fun ls hl => ?_)
  refine lv_iload_n hx hb dX7_inTurn_5 rfl (lv_at hl 2 rfl) ?_
  refine lv_if_lt (tgt := 23) hx hb dX7_inTurn_6 (by decide) (fun c1_ => ?_) (fun c1_ => ?_)
  · skip
    refine lv_iconst (v := (-1)) hx hb dX7_inTurn_23 (by decide) ?_
    exact W.iret (v := (-1)) hx hb hr (fun t ht hW => ⟨⟨(-1), (), rfl, Or.inl (⟨c1_, rfl⟩), trivial⟩, hS.F ht⟩) hS.2.2 dX7_inTurn_24
  · skip
    refine lv_iload_n hx hb dX7_inTurn_9 rfl (lv_at hl 2 rfl) ?_
    refine lv_iload_n hx hb dX7_inTurn_10 rfl (lv_at hl 0 rfl) ?_
    refine lv_icmp_ge (tgt := 23) hx hb dX7_inTurn_11 (by decide) (fun c2_ => ?_) (fun c2_ => ?_)
    · skip
      refine lv_iconst (v := (-1)) hx hb dX7_inTurn_23 (by decide) ?_
      exact W.iret (v := (-1)) hx hb hr (fun t ht hW => ⟨⟨(-1), (), rfl, Or.inr (⟨c1_, c2_, rfl⟩), trivial⟩, hS.F ht⟩) hS.2.2 dX7_inTurn_24
    · skip
      exfalso
      have z0_ := tz_nlt_r c1_ (show (0 : Int32).toInt = 0 by decide)
      have z1_ := tz_nle_l c2_ (show (0 : Int32).toInt = 0 by decide)
      omega

theorem dX3_told_0 : decode cX3_told 0 = .ok (.iload_n 1, 1) := by decide +kernel
theorem dX3_told_1 : decode cX3_told 1 = .ok (.ifCond .lt 15, 3) := by decide +kernel
theorem dX3_told_4 : decode cX3_told 4 = .ok (.iload_n 1, 1) := by decide +kernel
theorem dX3_told_5 : decode cX3_told 5 = .ok (.iconst 3, 1) := by decide +kernel
theorem dX3_told_6 : decode cX3_told 6 = .ok (.if_icmp .ge 10, 3) := by decide +kernel
theorem dX3_told_9 : decode cX3_told 9 = .ok (.aload_n 0, 1) := by decide +kernel
theorem dX3_told_10 : decode cX3_told 10 = .ok (.getfield 17, 3) := by decide +kernel
theorem dX3_told_13 : decode cX3_told 13 = .ok (.iload_n 1, 1) := by decide +kernel
theorem dX3_told_14 : decode cX3_told 14 = .ok (.iaload, 1) := by decide +kernel
theorem dX3_told_15 : decode cX3_told 15 = .ok (.ireturn, 1) := by decide +kernel
theorem dX3_told_16 : decode cX3_told 16 = .ok (.iload_n 1, 1) := by decide +kernel
theorem dX3_told_17 : decode cX3_told 17 = .ok (.bipush 10, 2) := by decide +kernel
theorem dX3_told_19 : decode cX3_told 19 = .ok (.if_icmp .lt 32, 3) := by decide +kernel
theorem dX3_told_22 : decode cX3_told 22 = .ok (.iload_n 1, 1) := by decide +kernel
theorem dX3_told_23 : decode cX3_told 23 = .ok (.bipush 10, 2) := by decide +kernel
theorem dX3_told_25 : decode cX3_told 25 = .ok (.iconst 2, 1) := by decide +kernel
theorem dX3_told_26 : decode cX3_told 26 = .ok (.aload_n 0, 1) := by decide +kernel
theorem dX3_told_27 : decode cX3_told 27 = .ok (.getfield 17, 3) := by decide +kernel
theorem dX3_told_30 : decode cX3_told 30 = .ok (.iconst 2, 1) := by decide +kernel
theorem dX3_told_31 : decode cX3_told 31 = .ok (.iaload, 1) := by decide +kernel
theorem dX3_told_32 : decode cX3_told 32 = .ok (.imul, 1) := by decide +kernel
theorem dX3_told_33 : decode cX3_told 33 = .ok (.iadd, 1) := by decide +kernel
theorem dX3_told_34 : decode cX3_told 34 = .ok (.if_icmp .ge 17, 3) := by decide +kernel
theorem dX3_told_51 : decode cX3_told 51 = .ok (.iconst (-1), 1) := by decide +kernel
theorem dX3_told_52 : decode cX3_told 52 = .ok (.ireturn, 1) := by decide +kernel
def v_X3_told : List Cond := .code yX3_told cX3_told 2 (some .int) :: ([.fieldLink RX3 17 "RestBoard$Machine" "latest" "[I"] ++ wsX30)
theorem m_X3_told_0 : (.fieldLink RX3 17 "RestBoard$Machine" "latest" "[I" : Cond) ∈ v_X3_told := List.mem_of_getElem? (i := 1) (by decide +kernel)
theorem i_X3_told_X3 : ∀ w ∈ u_ws RX3 TX3 10, w ∈ v_X3_told := fun w h => List.mem_cons_of_mem _ (List.mem_append_right _ h)
set_option maxHeartbeats 4000000 in
set_option maxRecDepth 100000 in
theorem c_X3_told (l : Launch) (dC : Nat → ClassId) (dI : Nat → Nat → Nat) (cy : Nat → ClassId) (a : Nat → Nat) (g : Nat → Nat → Option Nat) (p0 : Int32) : Met l yX3_told v_X3_told ({ frames := 0, cells := 0, slots := 0, locals := 0 }) (va_Pc [.ref (a 28), .int p0] (pp dC dI cy (fw a cy g))) (va_Qi (fun (r : Int32) (_ : Unit) => ((p0 < 0) ∧ (p0 < 10) ∧ r = (-1)) ∨ ((¬ p0 < 0) ∧ ((3 : Int32) ≤ p0) ∧ (p0 < 10) ∧ r = (-1)) ∨ ((¬ p0 < 0) ∧ ((3 : Int32) ≤ p0) ∧ (¬ p0 < 10) ∧ ((10 : Int32) ≤ p0) ∧ r = (-1)) ∨ ((¬ p0 < 0) ∧ (¬ (3 : Int32) ≤ p0) ∧ r = 0)) (fun _ _ => True) (fun _ => False)) 0 0 (fun _ => False) := by
  refine Met.ofW (cc := cX3_told) (maxL := 2) (ret := (some .int)) (by decide) rfl ?_
  intro p e s m args below meth c s₁ B hml hv
  obtain ⟨rfl, hP, hC⟩ := hv
  have hK := hC.1
  have hx := B.exec
  have hb := B.bytes
  have hr := B.returns
  have hts := atoms_spec (ws := v_X3_told) B.pre
  have hown : s.vm.findClass RX3 = some m.cls := findClass_of_methodNamed B.named
  have hlocks := B.notSynchronized
  have hS : va_S (fun _ => False) s.heap s.heap [] := va_S.rf
  have hl := lv_entry ([.ref (a 28), .int p0]) (n := 2) (Nat.le_of_ble_eq_true rfl)
  rw [lg_entry_eq]
  generalize (lg_sl ([.ref (a 28), .int p0]) ++ List.replicate (2 - (lg_sl ([.ref (a 28), .int p0])).length) Slot.unset).toArray = ls at hl ⊢
  have hl : lv_has ls 2 [(0, .ref (a 28)), (1, .int p0)] := hl
  refine lv_iload_n hx hb dX3_told_0 rfl (lv_at hl 1 rfl) ?_
  refine lv_if_lt (tgt := 16) hx hb dX3_told_1 (by decide) (fun c1_ => ?_) (fun c1_ => ?_)
  · skip
    refine lv_iload_n hx hb dX3_told_16 rfl (lv_at hl 1 rfl) ?_
    refine lv_bipush (v := 10) hx hb dX3_told_17 (by decide) ?_
    refine lv_icmp_lt (tgt := 51) hx hb dX3_told_19 (by decide) (fun c2_ => ?_) (fun c2_ => ?_)
    · skip
      refine lv_iconst (v := (-1)) hx hb dX3_told_51 (by decide) ?_
      exact W.iret (v := (-1)) hx hb hr (fun t ht hW => ⟨⟨(-1), (), rfl, Or.inl (⟨c1_, c2_, rfl⟩), trivial⟩, hS.F ht⟩) hS.2.2 dX3_told_52
    · skip
      exfalso
      have z0_ := tz_lt_r c1_ (show (0 : Int32).toInt = 0 by decide)
      have z1_ := tz_nlt_r c2_ (show (10 : Int32).toInt = 10 by decide)
      omega
  · skip
    refine lv_iload_n hx hb dX3_told_4 rfl (lv_at hl 1 rfl) ?_
    refine lv_iconst (v := 3) hx hb dX3_told_5 (by decide) ?_
    refine lv_icmp_ge (tgt := 16) hx hb dX3_told_6 (by decide) (fun c3_ => ?_) (fun c3_ => ?_)
    · skip
      refine lv_iload_n hx hb dX3_told_16 rfl (lv_at hl 1 rfl) ?_
      refine lv_bipush (v := 10) hx hb dX3_told_17 (by decide) ?_
      refine lv_icmp_lt (tgt := 51) hx hb dX3_told_19 (by decide) (fun c4_ => ?_) (fun c4_ => ?_)
      · skip
        refine lv_iconst (v := (-1)) hx hb dX3_told_51 (by decide) ?_
        exact W.iret (v := (-1)) hx hb hr (fun t ht hW => ⟨⟨(-1), (), rfl, Or.inr (Or.inl (⟨c1_, c3_, c4_, rfl⟩)), trivial⟩, hS.F ht⟩) hS.2.2 dX3_told_52
      · skip
        refine lv_iload_n hx hb dX3_told_22 rfl (lv_at hl 1 rfl) ?_
        refine lv_bipush (v := 10) hx hb dX3_told_23 (by decide) ?_
        refine lv_iconst (v := 2) hx hb dX3_told_25 (by decide) ?_
        refine lv_aload_n hx hb dX3_told_26 rfl (lv_at hl 0 rfl) ?_
        refine va_get (D := (dC, dI)) (ci := 3) (v := .ref (a 29)) (C := RX3) (T := TX3) (N := 10) hx hb hts i_X3_told_X3 hown hK hP 28 rfl rfl 7 (by decide) (hts _ m_X3_told_0) (fun _ h9 => h9) rfl dX3_told_27 ?_
        refine lv_iconst (v := 2) hx hb dX3_told_30 (by decide) ?_
        refine va_iald hx hb hK hP 29 0 rfl rfl (show ¬ ((2 : Int32) < 0 ∨ 15 ≤ Int32.toNatClampNeg 2) by decide) dX3_told_31 ?_
        refine tk_i 0 (by rfl) ?_
        refine lv_imul hx hb dX3_told_32 ?_
        refine tk_i 0 (by decide) ?_
        refine lv_iadd hx hb dX3_told_33 ?_
        refine tk_i 10 (by decide) ?_
        refine lv_icmp_ge (tgt := 51) hx hb dX3_told_34 (by decide) (fun c5_ => ?_) (fun c5_ => ?_)
        · skip
          refine lv_iconst (v := (-1)) hx hb dX3_told_51 (by decide) ?_
          exact W.iret (v := (-1)) hx hb hr (fun t ht hW => ⟨⟨(-1), (), rfl, Or.inr (Or.inr (Or.inl (⟨c1_, c3_, c4_, c5_, rfl⟩))), trivial⟩, hS.F ht⟩) hS.2.2 dX3_told_52
        · skip
          exfalso
          have z0_ := tz_nlt_r c1_ (show (0 : Int32).toInt = 0 by decide)
          have z1_ := tz_le_l c3_ (show (3 : Int32).toInt = 3 by decide)
          have z2_ := tz_nlt_r c4_ (show (10 : Int32).toInt = 10 by decide)
          have z3_ := tz_nle_l c5_ (show (10 : Int32).toInt = 10 by decide)
          omega
    · skip
      refine lv_aload_n hx hb dX3_told_9 rfl (lv_at hl 0 rfl) ?_
      refine va_get (D := (dC, dI)) (ci := 3) (v := .ref (a 29)) (C := RX3) (T := TX3) (N := 10) hx hb hts i_X3_told_X3 hown hK hP 28 rfl rfl 7 (by decide) (hts _ m_X3_told_0) (fun _ h9 => h9) rfl dX3_told_10 ?_
      refine lv_iload_n hx hb dX3_told_13 rfl (lv_at hl 1 rfl) ?_
      refine va_iald hx hb hK hP 29 0 rfl rfl (vp_in_iff.mpr (by have z0_ := tz_nlt_r c1_ (show (0 : Int32).toInt = 0 by decide); have z1_ := tz_nle_l c3_ (show (3 : Int32).toInt = 3 by decide); omega)) dX3_told_14 ?_
      refine tk_i 0 (by rfl) ?_
      exact W.iret (v := 0) hx hb hr (fun t ht hW => ⟨⟨0, (), rfl, Or.inr (Or.inr (Or.inr (⟨c1_, c3_, rfl⟩))), trivial⟩, hS.F ht⟩) hS.2.2 dX3_told_15

theorem dX3_steps_0 : decode cX3_steps 0 = .ok (.aload_n 0, 1) := by decide +kernel
theorem dX3_steps_1 : decode cX3_steps 1 = .ok (.getfield 41, 3) := by decide +kernel
theorem dX3_steps_4 : decode cX3_steps 4 = .ok (.ireturn, 1) := by decide +kernel
def v_X3_steps : List Cond := .code yX3_steps cX3_steps 1 (some .int) :: ([.fieldLink RX3 41 "RestBoard$Machine" "steps" "I"] ++ wsX30)
theorem m_X3_steps_0 : (.fieldLink RX3 41 "RestBoard$Machine" "steps" "I" : Cond) ∈ v_X3_steps := List.mem_of_getElem? (i := 1) (by decide +kernel)
theorem i_X3_steps_X3 : ∀ w ∈ u_ws RX3 TX3 10, w ∈ v_X3_steps := fun w h => List.mem_cons_of_mem _ (List.mem_append_right _ h)
set_option maxHeartbeats 4000000 in
set_option maxRecDepth 100000 in
theorem c_X3_steps (l : Launch) (dC : Nat → ClassId) (dI : Nat → Nat → Nat) (cy : Nat → ClassId) (a : Nat → Nat) (g : Nat → Nat → Option Nat) : Met l yX3_steps v_X3_steps ({ frames := 0, cells := 0, slots := 0, locals := 0 }) (va_Pc [.ref (a 28)] (pp dC dI cy (fw a cy g))) (va_Qi (fun (r : Int32) (_ : Unit) => r = 0) (fun _ _ => True) (fun _ => False)) 0 0 (fun _ => False) := by
  refine Met.ofW (cc := cX3_steps) (maxL := 1) (ret := (some .int)) (by decide) rfl ?_
  intro p e s m args below meth c s₁ B hml hv
  obtain ⟨rfl, hP, hC⟩ := hv
  have hK := hC.1
  have hx := B.exec
  have hb := B.bytes
  have hr := B.returns
  have hts := atoms_spec (ws := v_X3_steps) B.pre
  have hown : s.vm.findClass RX3 = some m.cls := findClass_of_methodNamed B.named
  have hlocks := B.notSynchronized
  have hS : va_S (fun _ => False) s.heap s.heap [] := va_S.rf
  have hl := lv_entry ([.ref (a 28)]) (n := 1) (Nat.le_of_ble_eq_true rfl)
  rw [lg_entry_eq]
  generalize (lg_sl ([.ref (a 28)]) ++ List.replicate (1 - (lg_sl ([.ref (a 28)])).length) Slot.unset).toArray = ls at hl ⊢
  have hl : lv_has ls 1 [(0, .ref (a 28))] := hl
  refine lv_aload_n hx hb dX3_steps_0 rfl (lv_at hl 0 rfl) ?_
  refine va_get (D := (dC, dI)) (ci := 3) (v := .int 0) (C := RX3) (T := TX3) (N := 10) hx hb hts i_X3_steps_X3 hown hK hP 28 rfl rfl 4 (by decide) (hts _ m_X3_steps_0) (fun _ h9 => h9) rfl dX3_steps_1 ?_
  exact W.iret (v := 0) hx hb hr (fun t ht hW => ⟨⟨0, (), rfl, rfl, trivial⟩, hS.F ht⟩) hS.2.2 dX3_steps_4

theorem dX1_kept_0 : decode cX1_kept 0 = .ok (.aload_n 0, 1) := by decide +kernel
theorem dX1_kept_1 : decode cX1_kept 1 = .ok (.getfield 24, 3) := by decide +kernel
theorem dX1_kept_4 : decode cX1_kept 4 = .ok (.ireturn, 1) := by decide +kernel
def v_X1_kept : List Cond := .code yX1_kept cX1_kept 1 (some .int) :: ([.fieldLink RX1 24 "RestBoard$History" "kept" "I"] ++ wsX10)
theorem m_X1_kept_0 : (.fieldLink RX1 24 "RestBoard$History" "kept" "I" : Cond) ∈ v_X1_kept := List.mem_of_getElem? (i := 1) (by decide +kernel)
theorem i_X1_kept_X1 : ∀ w ∈ u_ws RX1 TX1 5, w ∈ v_X1_kept := fun w h => List.mem_cons_of_mem _ (List.mem_append_right _ h)
set_option maxHeartbeats 4000000 in
set_option maxRecDepth 100000 in
theorem c_X1_kept (l : Launch) (dC : Nat → ClassId) (dI : Nat → Nat → Nat) (cy : Nat → ClassId) (a : Nat → Nat) (g : Nat → Nat → Option Nat) : Met l yX1_kept v_X1_kept ({ frames := 0, cells := 0, slots := 0, locals := 0 }) (va_Pc [.ref (a 32)] (pp dC dI cy (fw a cy g))) (va_Qi (fun (r : Int32) (_ : Unit) => r = 0) (fun _ _ => True) (fun _ => False)) 0 0 (fun _ => False) := by
  refine Met.ofW (cc := cX1_kept) (maxL := 1) (ret := (some .int)) (by decide) rfl ?_
  intro p e s m args below meth c s₁ B hml hv
  obtain ⟨rfl, hP, hC⟩ := hv
  have hK := hC.1
  have hx := B.exec
  have hb := B.bytes
  have hr := B.returns
  have hts := atoms_spec (ws := v_X1_kept) B.pre
  have hown : s.vm.findClass RX1 = some m.cls := findClass_of_methodNamed B.named
  have hlocks := B.notSynchronized
  have hS : va_S (fun _ => False) s.heap s.heap [] := va_S.rf
  have hl := lv_entry ([.ref (a 32)]) (n := 1) (Nat.le_of_ble_eq_true rfl)
  rw [lg_entry_eq]
  generalize (lg_sl ([.ref (a 32)]) ++ List.replicate (1 - (lg_sl ([.ref (a 32)])).length) Slot.unset).toArray = ls at hl ⊢
  have hl : lv_has ls 1 [(0, .ref (a 32))] := hl
  refine lv_aload_n hx hb dX1_kept_0 rfl (lv_at hl 0 rfl) ?_
  refine va_get (D := (dC, dI)) (ci := 1) (v := .int 0) (C := RX1) (T := TX1) (N := 5) hx hb hts i_X1_kept_X1 hown hK hP 32 rfl rfl 3 (by decide) (hts _ m_X1_kept_0) (fun _ h9 => h9) rfl dX1_kept_1 ?_
  exact W.iret (v := 0) hx hb hr (fun t ht hW => ⟨⟨0, (), rfl, rfl, trivial⟩, hS.F ht⟩) hS.2.2 dX1_kept_4

theorem dX9_length_0 : decode cX9_length 0 = .ok (.aload_n 0, 1) := by decide +kernel
theorem dX9_length_1 : decode cX9_length 1 = .ok (.getfield 35, 3) := by decide +kernel
theorem dX9_length_4 : decode cX9_length 4 = .ok (.ireturn, 1) := by decide +kernel
def v_X9_length : List Cond := .code yX9_length cX9_length 1 (some .int) :: ([.fieldLink RX9 35 "RestBoard$Table" "length" "I"] ++ wsX90)
theorem m_X9_length_0 : (.fieldLink RX9 35 "RestBoard$Table" "length" "I" : Cond) ∈ v_X9_length := List.mem_of_getElem? (i := 1) (by decide +kernel)
theorem i_X9_length_X9 : ∀ w ∈ u_ws RX9 TX9 15, w ∈ v_X9_length := fun w h => List.mem_cons_of_mem _ (List.mem_append_right _ h)
set_option maxHeartbeats 4000000 in
set_option maxRecDepth 100000 in
theorem c_X9_length (l : Launch) (dC : Nat → ClassId) (dI : Nat → Nat → Nat) (cy : Nat → ClassId) (a : Nat → Nat) (g : Nat → Nat → Option Nat) : Met l yX9_length v_X9_length ({ frames := 0, cells := 0, slots := 0, locals := 0 }) (va_Pc [.ref (a 24)] (pp dC dI cy (fw a cy g))) (va_Qi (fun (r : Int32) (_ : Unit) => r = 0) (fun _ _ => True) (fun _ => False)) 0 0 (fun _ => False) := by
  refine Met.ofW (cc := cX9_length) (maxL := 1) (ret := (some .int)) (by decide) rfl ?_
  intro p e s m args below meth c s₁ B hml hv
  obtain ⟨rfl, hP, hC⟩ := hv
  have hK := hC.1
  have hx := B.exec
  have hb := B.bytes
  have hr := B.returns
  have hts := atoms_spec (ws := v_X9_length) B.pre
  have hown : s.vm.findClass RX9 = some m.cls := findClass_of_methodNamed B.named
  have hlocks := B.notSynchronized
  have hS : va_S (fun _ => False) s.heap s.heap [] := va_S.rf
  have hl := lv_entry ([.ref (a 24)]) (n := 1) (Nat.le_of_ble_eq_true rfl)
  rw [lg_entry_eq]
  generalize (lg_sl ([.ref (a 24)]) ++ List.replicate (1 - (lg_sl ([.ref (a 24)])).length) Slot.unset).toArray = ls at hl ⊢
  have hl : lv_has ls 1 [(0, .ref (a 24))] := hl
  refine lv_aload_n hx hb dX9_length_0 rfl (lv_at hl 0 rfl) ?_
  refine va_get (D := (dC, dI)) (ci := 9) (v := .int 0) (C := RX9) (T := TX9) (N := 15) hx hb hts i_X9_length_X9 hown hK hP 24 rfl rfl 2 (by decide) (hts _ m_X9_length_0) (fun _ h9 => h9) rfl dX9_length_1 ?_
  exact W.iret (v := 0) hx hb hr (fun t ht hW => ⟨⟨0, (), rfl, rfl, trivial⟩, hS.F ht⟩) hS.2.2 dX9_length_4

theorem dX2_told_0 : decode cX2_told 0 = .ok (.iload_n 1, 1) := by decide +kernel
theorem dX2_told_1 : decode cX2_told 1 = .ok (.ifCond .lt 20, 3) := by decide +kernel
theorem dX2_told_4 : decode cX2_told 4 = .ok (.iload_n 1, 1) := by decide +kernel
theorem dX2_told_5 : decode cX2_told 5 = .ok (.aload_n 0, 1) := by decide +kernel
theorem dX2_told_6 : decode cX2_told 6 = .ok (.getfield 22, 3) := by decide +kernel
theorem dX2_told_9 : decode cX2_told 9 = .ok (.if_icmp .ge 12, 3) := by decide +kernel
theorem dX2_told_21 : decode cX2_told 21 = .ok (.iconst (-1), 1) := by decide +kernel
theorem dX2_told_22 : decode cX2_told 22 = .ok (.ireturn, 1) := by decide +kernel
def v_X2_told : List Cond := .code yX2_told cX2_told 4 (some .int) :: ([.fieldLink RX2 22 "RestBoard$Log" "kept" "I"] ++ wsX20)
theorem m_X2_told_0 : (.fieldLink RX2 22 "RestBoard$Log" "kept" "I" : Cond) ∈ v_X2_told := List.mem_of_getElem? (i := 1) (by decide +kernel)
theorem i_X2_told_X2 : ∀ w ∈ u_ws RX2 TX2 4, w ∈ v_X2_told := fun w h => List.mem_cons_of_mem _ (List.mem_append_right _ h)
set_option maxHeartbeats 4000000 in
set_option maxRecDepth 100000 in
theorem c_X2_told_n (l : Launch) (dC : Nat → ClassId) (dI : Nat → Nat → Nat) (cy : Nat → ClassId) (a : Nat → Nat) (g : Nat → Nat → Option Nat) (p0 p1 : Int32) : Met l yX2_told v_X2_told ({ frames := 0, cells := 0, slots := 0, locals := 0 }) (va_Pc [.ref (a 15), .int p0, .int p1] (pp dC dI cy (fw a cy g))) (va_Qi (fun (r : Int32) (_ : Unit) => ((p0 < 0) ∧ r = (-1)) ∨ ((¬ p0 < 0) ∧ ((0 : Int32) ≤ p0) ∧ r = (-1))) (fun _ _ => True) (fun _ => False)) 0 0 (fun _ => False) := by
  refine Met.ofW (cc := cX2_told) (maxL := 4) (ret := (some .int)) (by decide) rfl ?_
  intro p e s m args below meth c s₁ B hml hv
  obtain ⟨rfl, hP, hC⟩ := hv
  have hK := hC.1
  have hx := B.exec
  have hb := B.bytes
  have hr := B.returns
  have hts := atoms_spec (ws := v_X2_told) B.pre
  have hown : s.vm.findClass RX2 = some m.cls := findClass_of_methodNamed B.named
  have hlocks := B.notSynchronized
  have hS : va_S (fun _ => False) s.heap s.heap [] := va_S.rf
  have hl := lv_entry ([.ref (a 15), .int p0, .int p1]) (n := 4) (Nat.le_of_ble_eq_true rfl)
  rw [lg_entry_eq]
  generalize (lg_sl ([.ref (a 15), .int p0, .int p1]) ++ List.replicate (4 - (lg_sl ([.ref (a 15), .int p0, .int p1])).length) Slot.unset).toArray = ls at hl ⊢
  have hl : lv_has ls 4 [(0, .ref (a 15)), (1, .int p0), (2, .int p1)] := hl
  refine lv_iload_n hx hb dX2_told_0 rfl (lv_at hl 1 rfl) ?_
  refine lv_if_lt (tgt := 21) hx hb dX2_told_1 (by decide) (fun c1_ => ?_) (fun c1_ => ?_)
  · skip
    refine lv_iconst (v := (-1)) hx hb dX2_told_21 (by decide) ?_
    exact W.iret (v := (-1)) hx hb hr (fun t ht hW => ⟨⟨(-1), (), rfl, Or.inl (⟨c1_, rfl⟩), trivial⟩, hS.F ht⟩) hS.2.2 dX2_told_22
  · skip
    refine lv_iload_n hx hb dX2_told_4 rfl (lv_at hl 1 rfl) ?_
    refine lv_aload_n hx hb dX2_told_5 rfl (lv_at hl 0 rfl) ?_
    refine va_get (D := (dC, dI)) (ci := 2) (v := .int 0) (C := RX2) (T := TX2) (N := 4) hx hb hts i_X2_told_X2 hown hK hP 15 rfl rfl 2 (by decide) (hts _ m_X2_told_0) (fun _ h9 => h9) rfl dX2_told_6 ?_
    refine lv_icmp_ge (tgt := 21) hx hb dX2_told_9 (by decide) (fun c2_ => ?_) (fun c2_ => ?_)
    · skip
      refine lv_iconst (v := (-1)) hx hb dX2_told_21 (by decide) ?_
      exact W.iret (v := (-1)) hx hb hr (fun t ht hW => ⟨⟨(-1), (), rfl, Or.inr (⟨c1_, c2_, rfl⟩), trivial⟩, hS.F ht⟩) hS.2.2 dX2_told_22
    · skip
      exfalso
      have z0_ := tz_nlt_r c1_ (show (0 : Int32).toInt = 0 by decide)
      have z1_ := tz_nle_l c2_ (show (0 : Int32).toInt = 0 by decide)
      omega

set_option maxHeartbeats 4000000 in
set_option maxRecDepth 100000 in
theorem c_X2_told_s (l : Launch) (dC : Nat → ClassId) (dI : Nat → Nat → Nat) (cy : Nat → ClassId) (a : Nat → Nat) (g : Nat → Nat → Option Nat) (p0 p1 : Int32) : Met l yX2_told v_X2_told ({ frames := 0, cells := 0, slots := 0, locals := 0 }) (va_Pc [.ref (a 18), .int p0, .int p1] (pp dC dI cy (fw a cy g))) (va_Qi (fun (r : Int32) (_ : Unit) => ((p0 < 0) ∧ r = (-1)) ∨ ((¬ p0 < 0) ∧ ((0 : Int32) ≤ p0) ∧ r = (-1))) (fun _ _ => True) (fun _ => False)) 0 0 (fun _ => False) := by
  refine Met.ofW (cc := cX2_told) (maxL := 4) (ret := (some .int)) (by decide) rfl ?_
  intro p e s m args below meth c s₁ B hml hv
  obtain ⟨rfl, hP, hC⟩ := hv
  have hK := hC.1
  have hx := B.exec
  have hb := B.bytes
  have hr := B.returns
  have hts := atoms_spec (ws := v_X2_told) B.pre
  have hown : s.vm.findClass RX2 = some m.cls := findClass_of_methodNamed B.named
  have hlocks := B.notSynchronized
  have hS : va_S (fun _ => False) s.heap s.heap [] := va_S.rf
  have hl := lv_entry ([.ref (a 18), .int p0, .int p1]) (n := 4) (Nat.le_of_ble_eq_true rfl)
  rw [lg_entry_eq]
  generalize (lg_sl ([.ref (a 18), .int p0, .int p1]) ++ List.replicate (4 - (lg_sl ([.ref (a 18), .int p0, .int p1])).length) Slot.unset).toArray = ls at hl ⊢
  have hl : lv_has ls 4 [(0, .ref (a 18)), (1, .int p0), (2, .int p1)] := hl
  refine lv_iload_n hx hb dX2_told_0 rfl (lv_at hl 1 rfl) ?_
  refine lv_if_lt (tgt := 21) hx hb dX2_told_1 (by decide) (fun c1_ => ?_) (fun c1_ => ?_)
  · skip
    refine lv_iconst (v := (-1)) hx hb dX2_told_21 (by decide) ?_
    exact W.iret (v := (-1)) hx hb hr (fun t ht hW => ⟨⟨(-1), (), rfl, Or.inl (⟨c1_, rfl⟩), trivial⟩, hS.F ht⟩) hS.2.2 dX2_told_22
  · skip
    refine lv_iload_n hx hb dX2_told_4 rfl (lv_at hl 1 rfl) ?_
    refine lv_aload_n hx hb dX2_told_5 rfl (lv_at hl 0 rfl) ?_
    refine va_get (D := (dC, dI)) (ci := 2) (v := .int 0) (C := RX2) (T := TX2) (N := 4) hx hb hts i_X2_told_X2 hown hK hP 18 rfl rfl 2 (by decide) (hts _ m_X2_told_0) (fun _ h9 => h9) rfl dX2_told_6 ?_
    refine lv_icmp_ge (tgt := 21) hx hb dX2_told_9 (by decide) (fun c2_ => ?_) (fun c2_ => ?_)
    · skip
      refine lv_iconst (v := (-1)) hx hb dX2_told_21 (by decide) ?_
      exact W.iret (v := (-1)) hx hb hr (fun t ht hW => ⟨⟨(-1), (), rfl, Or.inr (⟨c1_, c2_, rfl⟩), trivial⟩, hS.F ht⟩) hS.2.2 dX2_told_22
    · skip
      exfalso
      have z0_ := tz_nlt_r c1_ (show (0 : Int32).toInt = 0 by decide)
      have z1_ := tz_nle_l c2_ (show (0 : Int32).toInt = 0 by decide)
      omega

theorem dX5_bits_0 : decode cX5_bits 0 = .ok (.lconst 0, 1) := by decide +kernel
theorem dX5_bits_1 : decode cX5_bits 1 = .ok (.lstore_n 3, 1) := by decide +kernel
theorem dX5_bits_2 : decode cX5_bits 2 = .ok (.iload_n 1, 1) := by decide +kernel
theorem dX5_bits_3 : decode cX5_bits 3 = .ok (.istore 5, 2) := by decide +kernel
theorem dX5_bits_5 : decode cX5_bits 5 = .ok (.iload 5, 2) := by decide +kernel
theorem dX5_bits_7 : decode cX5_bits 7 = .ok (.iload_n 1, 1) := by decide +kernel
theorem dX5_bits_8 : decode cX5_bits 8 = .ok (.iload_n 2, 1) := by decide +kernel
theorem dX5_bits_9 : decode cX5_bits 9 = .ok (.iadd, 1) := by decide +kernel
theorem dX5_bits_10 : decode cX5_bits 10 = .ok (.if_icmp .ge 30, 3) := by decide +kernel
theorem dX5_bits_13 : decode cX5_bits 13 = .ok (.lload_n 3, 1) := by decide +kernel
theorem dX5_bits_14 : decode cX5_bits 14 = .ok (.aload_n 0, 1) := by decide +kernel
theorem dX5_bits_15 : decode cX5_bits 15 = .ok (.iload 5, 2) := by decide +kernel
theorem dX5_bits_17 : decode cX5_bits 17 = .ok (.iaload, 1) := by decide +kernel
theorem dX5_bits_18 : decode cX5_bits 18 = .ok (.iconst (-1), 1) := by decide +kernel
theorem dX5_bits_19 : decode cX5_bits 19 = .ok (.if_icmp .ne 7, 3) := by decide +kernel
theorem dX5_bits_22 : decode cX5_bits 22 = .ok (.lconst 0, 1) := by decide +kernel
theorem dX5_bits_23 : decode cX5_bits 23 = .ok (.goto 9, 3) := by decide +kernel
theorem dX5_bits_32 : decode cX5_bits 32 = .ok (.lor, 1) := by decide +kernel
theorem dX5_bits_33 : decode cX5_bits 33 = .ok (.lstore_n 3, 1) := by decide +kernel
theorem dX5_bits_34 : decode cX5_bits 34 = .ok (.iinc 5 1, 3) := by decide +kernel
theorem dX5_bits_37 : decode cX5_bits 37 = .ok (.goto (-32), 3) := by decide +kernel
theorem dX5_bits_40 : decode cX5_bits 40 = .ok (.lload_n 3, 1) := by decide +kernel
theorem dX5_bits_41 : decode cX5_bits 41 = .ok (.lreturn, 1) := by decide +kernel
def v_X5_bits : List Cond := .code yX5_bits cX5_bits 6 (some .long) :: ([])
set_option maxHeartbeats 4000000 in
set_option maxRecDepth 100000 in
theorem c_X5_bits_w (l : Launch) (dC : Nat → ClassId) (dI : Nat → Nat → Nat) (cy : Nat → ClassId) (a : Nat → Nat) (g : Nat → Nat → Option Nat) : Met l yX5_bits v_X5_bits ({ frames := 0, cells := 0, slots := 0, locals := 0 }) (va_Pc [.ref (a 9), .int 0, .int 6] (pp dC dI cy (fw a cy g))) (va_Ql (fun (r : Int64) (_ : Unit) => r = (Int32.toInt64 0)) (fun _ _ => True) (fun _ => False)) 0 0 (fun _ => False) := by
  refine Met.ofW (cc := cX5_bits) (maxL := 6) (ret := (some .long)) (by decide) rfl ?_
  intro p e s m args below meth c s₁ B hml hv
  obtain ⟨rfl, hP, hC⟩ := hv
  have hK := hC.1
  have hx := B.exec
  have hb := B.bytes
  have hr := B.returns
  have hts := atoms_spec (ws := v_X5_bits) B.pre
  have hown : s.vm.findClass RX5 = some m.cls := findClass_of_methodNamed B.named
  have hlocks := B.notSynchronized
  have hS : va_S (fun _ => False) s.heap s.heap [] := va_S.rf
  have hl := lv_entry ([.ref (a 9), .int 0, .int 6]) (n := 6) (Nat.le_of_ble_eq_true rfl)
  rw [lg_entry_eq]
  generalize (lg_sl ([.ref (a 9), .int 0, .int 6]) ++ List.replicate (6 - (lg_sl ([.ref (a 9), .int 0, .int 6])).length) Slot.unset).toArray = ls at hl ⊢
  have hl : lv_has ls 6 [(0, .ref (a 9)), (1, .int 0), (2, .int 6)] := hl
  refine lv_lconst (v := 0) hx hb dX5_bits_0 (by decide) ?_
  refine tk_l (Int32.toInt64 0) (by decide) ?_
  refine lv_lstore_n (lv' := [(3, .long (Int32.toInt64 0)), (0, .ref (a 9)), (1, .int 0), (2, .int 6)]) hx hb dX5_bits_1 rfl hl (by decide) rfl (fun ls hl => ?_)
  refine lv_iload_n hx hb dX5_bits_2 rfl (lv_at hl 2 rfl) ?_
  refine lv_istore (lv' := [(5, .int 0), (3, .long (Int32.toInt64 0)), (0, .ref (a 9)), (1, .int 0), (2, .int 6)]) hx hb dX5_bits_3 hl (by decide) rfl (fun ls hl => ?_)
  refine lv_iload hx hb dX5_bits_5 (lv_at hl 0 rfl) ?_
  refine lv_iload_n hx hb dX5_bits_7 rfl (lv_at hl 3 rfl) ?_
  refine lv_iload_n hx hb dX5_bits_8 rfl (lv_at hl 4 rfl) ?_
  refine lv_iadd hx hb dX5_bits_9 ?_
  refine tk_i 6 (by decide) ?_
  refine lv_icmp_ge (tgt := 40) hx hb dX5_bits_10 (by decide) (fun c9_ => absurd c9_ (by decide)) (fun _ => ?_)
  refine lv_lload_n hx hb dX5_bits_13 rfl (lv_at hl 1 rfl) ?_
  refine lv_aload_n hx hb dX5_bits_14 rfl (lv_at hl 2 rfl) ?_
  refine lv_iload hx hb dX5_bits_15 (lv_at hl 0 rfl) ?_
  refine va_iald hx hb hK hP 9 0 rfl rfl (show ¬ ((0 : Int32) < 0 ∨ 192 ≤ Int32.toNatClampNeg 0) by decide) dX5_bits_17 ?_
  refine tk_i (-1) (by rfl) ?_
  refine lv_iconst (v := (-1)) hx hb dX5_bits_18 (by decide) ?_
  refine lv_icmp_ne (tgt := 26) hx hb dX5_bits_19 (by decide) (fun c9_ => absurd (by decide) c9_) (fun _ => ?_)
  refine lv_lconst (v := 0) hx hb dX5_bits_22 (by decide) ?_
  refine tk_l (Int32.toInt64 0) (by decide) ?_
  refine lv_goto (tgt := 32) hx hb dX5_bits_23 (by decide) ?_
  refine lv_lor hx hb dX5_bits_32 ?_
  refine tk_l (Int32.toInt64 0) (by decide) ?_
  refine lv_lstore_n (lv' := [(3, .long (Int32.toInt64 0)), (5, .int 0), (0, .ref (a 9)), (1, .int 0), (2, .int 6)]) hx hb dX5_bits_33 rfl hl (by decide) rfl (fun ls hl => ?_)
  refine lv_iinc (v := 1) (lv' := [(5, .int 1), (3, .long (Int32.toInt64 0)), (0, .ref (a 9)), (1, .int 0), (2, .int 6)]) hx hb dX5_bits_34 hl (k := 1) rfl (by decide) (by decide) rfl (fun ls hl => ?_)
  refine lv_goto (tgt := 5) hx hb dX5_bits_37 (by decide) ?_
  refine lv_iload hx hb dX5_bits_5 (lv_at hl 0 rfl) ?_
  refine lv_iload_n hx hb dX5_bits_7 rfl (lv_at hl 3 rfl) ?_
  refine lv_iload_n hx hb dX5_bits_8 rfl (lv_at hl 4 rfl) ?_
  refine lv_iadd hx hb dX5_bits_9 ?_
  refine tk_i 6 (by decide) ?_
  refine lv_icmp_ge (tgt := 40) hx hb dX5_bits_10 (by decide) (fun c9_ => absurd c9_ (by decide)) (fun _ => ?_)
  refine lv_lload_n hx hb dX5_bits_13 rfl (lv_at hl 1 rfl) ?_
  refine lv_aload_n hx hb dX5_bits_14 rfl (lv_at hl 2 rfl) ?_
  refine lv_iload hx hb dX5_bits_15 (lv_at hl 0 rfl) ?_
  refine va_iald hx hb hK hP 9 0 rfl rfl (show ¬ ((1 : Int32) < 0 ∨ 192 ≤ Int32.toNatClampNeg 1) by decide) dX5_bits_17 ?_
  refine tk_i (-1) (by rfl) ?_
  refine lv_iconst (v := (-1)) hx hb dX5_bits_18 (by decide) ?_
  refine lv_icmp_ne (tgt := 26) hx hb dX5_bits_19 (by decide) (fun c9_ => absurd (by decide) c9_) (fun _ => ?_)
  refine lv_lconst (v := 0) hx hb dX5_bits_22 (by decide) ?_
  refine tk_l (Int32.toInt64 0) (by decide) ?_
  refine lv_goto (tgt := 32) hx hb dX5_bits_23 (by decide) ?_
  refine lv_lor hx hb dX5_bits_32 ?_
  refine tk_l (Int32.toInt64 0) (by decide) ?_
  refine lv_lstore_n (lv' := [(3, .long (Int32.toInt64 0)), (5, .int 1), (0, .ref (a 9)), (1, .int 0), (2, .int 6)]) hx hb dX5_bits_33 rfl hl (by decide) rfl (fun ls hl => ?_)
  refine lv_iinc (v := 2) (lv' := [(5, .int 2), (3, .long (Int32.toInt64 0)), (0, .ref (a 9)), (1, .int 0), (2, .int 6)]) hx hb dX5_bits_34 hl (k := 1) rfl (by decide) (by decide) rfl (fun ls hl => ?_)
  refine lv_goto (tgt := 5) hx hb dX5_bits_37 (by decide) ?_
  refine lv_iload hx hb dX5_bits_5 (lv_at hl 0 rfl) ?_
  refine lv_iload_n hx hb dX5_bits_7 rfl (lv_at hl 3 rfl) ?_
  refine lv_iload_n hx hb dX5_bits_8 rfl (lv_at hl 4 rfl) ?_
  refine lv_iadd hx hb dX5_bits_9 ?_
  refine tk_i 6 (by decide) ?_
  refine lv_icmp_ge (tgt := 40) hx hb dX5_bits_10 (by decide) (fun c9_ => absurd c9_ (by decide)) (fun _ => ?_)
  refine lv_lload_n hx hb dX5_bits_13 rfl (lv_at hl 1 rfl) ?_
  refine lv_aload_n hx hb dX5_bits_14 rfl (lv_at hl 2 rfl) ?_
  refine lv_iload hx hb dX5_bits_15 (lv_at hl 0 rfl) ?_
  refine va_iald hx hb hK hP 9 0 rfl rfl (show ¬ ((2 : Int32) < 0 ∨ 192 ≤ Int32.toNatClampNeg 2) by decide) dX5_bits_17 ?_
  refine tk_i (-1) (by rfl) ?_
  refine lv_iconst (v := (-1)) hx hb dX5_bits_18 (by decide) ?_
  refine lv_icmp_ne (tgt := 26) hx hb dX5_bits_19 (by decide) (fun c9_ => absurd (by decide) c9_) (fun _ => ?_)
  refine lv_lconst (v := 0) hx hb dX5_bits_22 (by decide) ?_
  refine tk_l (Int32.toInt64 0) (by decide) ?_
  refine lv_goto (tgt := 32) hx hb dX5_bits_23 (by decide) ?_
  refine lv_lor hx hb dX5_bits_32 ?_
  refine tk_l (Int32.toInt64 0) (by decide) ?_
  refine lv_lstore_n (lv' := [(3, .long (Int32.toInt64 0)), (5, .int 2), (0, .ref (a 9)), (1, .int 0), (2, .int 6)]) hx hb dX5_bits_33 rfl hl (by decide) rfl (fun ls hl => ?_)
  refine lv_iinc (v := 3) (lv' := [(5, .int 3), (3, .long (Int32.toInt64 0)), (0, .ref (a 9)), (1, .int 0), (2, .int 6)]) hx hb dX5_bits_34 hl (k := 1) rfl (by decide) (by decide) rfl (fun ls hl => ?_)
  refine lv_goto (tgt := 5) hx hb dX5_bits_37 (by decide) ?_
  refine lv_iload hx hb dX5_bits_5 (lv_at hl 0 rfl) ?_
  refine lv_iload_n hx hb dX5_bits_7 rfl (lv_at hl 3 rfl) ?_
  refine lv_iload_n hx hb dX5_bits_8 rfl (lv_at hl 4 rfl) ?_
  refine lv_iadd hx hb dX5_bits_9 ?_
  refine tk_i 6 (by decide) ?_
  refine lv_icmp_ge (tgt := 40) hx hb dX5_bits_10 (by decide) (fun c9_ => absurd c9_ (by decide)) (fun _ => ?_)
  refine lv_lload_n hx hb dX5_bits_13 rfl (lv_at hl 1 rfl) ?_
  refine lv_aload_n hx hb dX5_bits_14 rfl (lv_at hl 2 rfl) ?_
  refine lv_iload hx hb dX5_bits_15 (lv_at hl 0 rfl) ?_
  refine va_iald hx hb hK hP 9 0 rfl rfl (show ¬ ((3 : Int32) < 0 ∨ 192 ≤ Int32.toNatClampNeg 3) by decide) dX5_bits_17 ?_
  refine tk_i (-1) (by rfl) ?_
  refine lv_iconst (v := (-1)) hx hb dX5_bits_18 (by decide) ?_
  refine lv_icmp_ne (tgt := 26) hx hb dX5_bits_19 (by decide) (fun c9_ => absurd (by decide) c9_) (fun _ => ?_)
  refine lv_lconst (v := 0) hx hb dX5_bits_22 (by decide) ?_
  refine tk_l (Int32.toInt64 0) (by decide) ?_
  refine lv_goto (tgt := 32) hx hb dX5_bits_23 (by decide) ?_
  refine lv_lor hx hb dX5_bits_32 ?_
  refine tk_l (Int32.toInt64 0) (by decide) ?_
  refine lv_lstore_n (lv' := [(3, .long (Int32.toInt64 0)), (5, .int 3), (0, .ref (a 9)), (1, .int 0), (2, .int 6)]) hx hb dX5_bits_33 rfl hl (by decide) rfl (fun ls hl => ?_)
  refine lv_iinc (v := 4) (lv' := [(5, .int 4), (3, .long (Int32.toInt64 0)), (0, .ref (a 9)), (1, .int 0), (2, .int 6)]) hx hb dX5_bits_34 hl (k := 1) rfl (by decide) (by decide) rfl (fun ls hl => ?_)
  refine lv_goto (tgt := 5) hx hb dX5_bits_37 (by decide) ?_
  refine lv_iload hx hb dX5_bits_5 (lv_at hl 0 rfl) ?_
  refine lv_iload_n hx hb dX5_bits_7 rfl (lv_at hl 3 rfl) ?_
  refine lv_iload_n hx hb dX5_bits_8 rfl (lv_at hl 4 rfl) ?_
  refine lv_iadd hx hb dX5_bits_9 ?_
  refine tk_i 6 (by decide) ?_
  refine lv_icmp_ge (tgt := 40) hx hb dX5_bits_10 (by decide) (fun c9_ => absurd c9_ (by decide)) (fun _ => ?_)
  refine lv_lload_n hx hb dX5_bits_13 rfl (lv_at hl 1 rfl) ?_
  refine lv_aload_n hx hb dX5_bits_14 rfl (lv_at hl 2 rfl) ?_
  refine lv_iload hx hb dX5_bits_15 (lv_at hl 0 rfl) ?_
  refine va_iald hx hb hK hP 9 0 rfl rfl (show ¬ ((4 : Int32) < 0 ∨ 192 ≤ Int32.toNatClampNeg 4) by decide) dX5_bits_17 ?_
  refine tk_i (-1) (by rfl) ?_
  refine lv_iconst (v := (-1)) hx hb dX5_bits_18 (by decide) ?_
  refine lv_icmp_ne (tgt := 26) hx hb dX5_bits_19 (by decide) (fun c9_ => absurd (by decide) c9_) (fun _ => ?_)
  refine lv_lconst (v := 0) hx hb dX5_bits_22 (by decide) ?_
  refine tk_l (Int32.toInt64 0) (by decide) ?_
  refine lv_goto (tgt := 32) hx hb dX5_bits_23 (by decide) ?_
  refine lv_lor hx hb dX5_bits_32 ?_
  refine tk_l (Int32.toInt64 0) (by decide) ?_
  refine lv_lstore_n (lv' := [(3, .long (Int32.toInt64 0)), (5, .int 4), (0, .ref (a 9)), (1, .int 0), (2, .int 6)]) hx hb dX5_bits_33 rfl hl (by decide) rfl (fun ls hl => ?_)
  refine lv_iinc (v := 5) (lv' := [(5, .int 5), (3, .long (Int32.toInt64 0)), (0, .ref (a 9)), (1, .int 0), (2, .int 6)]) hx hb dX5_bits_34 hl (k := 1) rfl (by decide) (by decide) rfl (fun ls hl => ?_)
  refine lv_goto (tgt := 5) hx hb dX5_bits_37 (by decide) ?_
  refine lv_iload hx hb dX5_bits_5 (lv_at hl 0 rfl) ?_
  refine lv_iload_n hx hb dX5_bits_7 rfl (lv_at hl 3 rfl) ?_
  refine lv_iload_n hx hb dX5_bits_8 rfl (lv_at hl 4 rfl) ?_
  refine lv_iadd hx hb dX5_bits_9 ?_
  refine tk_i 6 (by decide) ?_
  refine lv_icmp_ge (tgt := 40) hx hb dX5_bits_10 (by decide) (fun c9_ => absurd c9_ (by decide)) (fun _ => ?_)
  refine lv_lload_n hx hb dX5_bits_13 rfl (lv_at hl 1 rfl) ?_
  refine lv_aload_n hx hb dX5_bits_14 rfl (lv_at hl 2 rfl) ?_
  refine lv_iload hx hb dX5_bits_15 (lv_at hl 0 rfl) ?_
  refine va_iald hx hb hK hP 9 0 rfl rfl (show ¬ ((5 : Int32) < 0 ∨ 192 ≤ Int32.toNatClampNeg 5) by decide) dX5_bits_17 ?_
  refine tk_i (-1) (by rfl) ?_
  refine lv_iconst (v := (-1)) hx hb dX5_bits_18 (by decide) ?_
  refine lv_icmp_ne (tgt := 26) hx hb dX5_bits_19 (by decide) (fun c9_ => absurd (by decide) c9_) (fun _ => ?_)
  refine lv_lconst (v := 0) hx hb dX5_bits_22 (by decide) ?_
  refine tk_l (Int32.toInt64 0) (by decide) ?_
  refine lv_goto (tgt := 32) hx hb dX5_bits_23 (by decide) ?_
  refine lv_lor hx hb dX5_bits_32 ?_
  refine tk_l (Int32.toInt64 0) (by decide) ?_
  refine lv_lstore_n (lv' := [(3, .long (Int32.toInt64 0)), (5, .int 5), (0, .ref (a 9)), (1, .int 0), (2, .int 6)]) hx hb dX5_bits_33 rfl hl (by decide) rfl (fun ls hl => ?_)
  refine lv_iinc (v := 6) (lv' := [(5, .int 6), (3, .long (Int32.toInt64 0)), (0, .ref (a 9)), (1, .int 0), (2, .int 6)]) hx hb dX5_bits_34 hl (k := 1) rfl (by decide) (by decide) rfl (fun ls hl => ?_)
  refine lv_goto (tgt := 5) hx hb dX5_bits_37 (by decide) ?_
  refine lv_iload hx hb dX5_bits_5 (lv_at hl 0 rfl) ?_
  refine lv_iload_n hx hb dX5_bits_7 rfl (lv_at hl 3 rfl) ?_
  refine lv_iload_n hx hb dX5_bits_8 rfl (lv_at hl 4 rfl) ?_
  refine lv_iadd hx hb dX5_bits_9 ?_
  refine tk_i 6 (by decide) ?_
  refine lv_icmp_ge (tgt := 40) hx hb dX5_bits_10 (by decide) (fun _ => ?_) (fun c9_ => absurd (by decide) c9_)
  refine lv_lload_n hx hb dX5_bits_40 rfl (lv_at hl 1 rfl) ?_
  exact W.lret (v := (Int32.toInt64 0)) hx hb hr (fun t ht hW => ⟨⟨(Int32.toInt64 0), (), rfl, rfl, trivial⟩, hS.F ht⟩) hS.2.2 dX5_bits_41

set_option maxHeartbeats 4000000 in
set_option maxRecDepth 100000 in
theorem c_X5_bits_t (l : Launch) (dC : Nat → ClassId) (dI : Nat → Nat → Nat) (cy : Nat → ClassId) (a : Nat → Nat) (g : Nat → Nat → Option Nat) : Met l yX5_bits v_X5_bits ({ frames := 0, cells := 0, slots := 0, locals := 0 }) (va_Pc [.ref (a 10), .int 0, .int 4] (pp dC dI cy (fw a cy g))) (va_Ql (fun (r : Int64) (_ : Unit) => r = (Int32.toInt64 0)) (fun _ _ => True) (fun _ => False)) 0 0 (fun _ => False) := by
  refine Met.ofW (cc := cX5_bits) (maxL := 6) (ret := (some .long)) (by decide) rfl ?_
  intro p e s m args below meth c s₁ B hml hv
  obtain ⟨rfl, hP, hC⟩ := hv
  have hK := hC.1
  have hx := B.exec
  have hb := B.bytes
  have hr := B.returns
  have hts := atoms_spec (ws := v_X5_bits) B.pre
  have hown : s.vm.findClass RX5 = some m.cls := findClass_of_methodNamed B.named
  have hlocks := B.notSynchronized
  have hS : va_S (fun _ => False) s.heap s.heap [] := va_S.rf
  have hl := lv_entry ([.ref (a 10), .int 0, .int 4]) (n := 6) (Nat.le_of_ble_eq_true rfl)
  rw [lg_entry_eq]
  generalize (lg_sl ([.ref (a 10), .int 0, .int 4]) ++ List.replicate (6 - (lg_sl ([.ref (a 10), .int 0, .int 4])).length) Slot.unset).toArray = ls at hl ⊢
  have hl : lv_has ls 6 [(0, .ref (a 10)), (1, .int 0), (2, .int 4)] := hl
  refine lv_lconst (v := 0) hx hb dX5_bits_0 (by decide) ?_
  refine tk_l (Int32.toInt64 0) (by decide) ?_
  refine lv_lstore_n (lv' := [(3, .long (Int32.toInt64 0)), (0, .ref (a 10)), (1, .int 0), (2, .int 4)]) hx hb dX5_bits_1 rfl hl (by decide) rfl (fun ls hl => ?_)
  refine lv_iload_n hx hb dX5_bits_2 rfl (lv_at hl 2 rfl) ?_
  refine lv_istore (lv' := [(5, .int 0), (3, .long (Int32.toInt64 0)), (0, .ref (a 10)), (1, .int 0), (2, .int 4)]) hx hb dX5_bits_3 hl (by decide) rfl (fun ls hl => ?_)
  refine lv_iload hx hb dX5_bits_5 (lv_at hl 0 rfl) ?_
  refine lv_iload_n hx hb dX5_bits_7 rfl (lv_at hl 3 rfl) ?_
  refine lv_iload_n hx hb dX5_bits_8 rfl (lv_at hl 4 rfl) ?_
  refine lv_iadd hx hb dX5_bits_9 ?_
  refine tk_i 4 (by decide) ?_
  refine lv_icmp_ge (tgt := 40) hx hb dX5_bits_10 (by decide) (fun c9_ => absurd c9_ (by decide)) (fun _ => ?_)
  refine lv_lload_n hx hb dX5_bits_13 rfl (lv_at hl 1 rfl) ?_
  refine lv_aload_n hx hb dX5_bits_14 rfl (lv_at hl 2 rfl) ?_
  refine lv_iload hx hb dX5_bits_15 (lv_at hl 0 rfl) ?_
  refine va_iald hx hb hK hP 10 0 rfl rfl (show ¬ ((0 : Int32) < 0 ∨ 128 ≤ Int32.toNatClampNeg 0) by decide) dX5_bits_17 ?_
  refine tk_i (-1) (by rfl) ?_
  refine lv_iconst (v := (-1)) hx hb dX5_bits_18 (by decide) ?_
  refine lv_icmp_ne (tgt := 26) hx hb dX5_bits_19 (by decide) (fun c9_ => absurd (by decide) c9_) (fun _ => ?_)
  refine lv_lconst (v := 0) hx hb dX5_bits_22 (by decide) ?_
  refine tk_l (Int32.toInt64 0) (by decide) ?_
  refine lv_goto (tgt := 32) hx hb dX5_bits_23 (by decide) ?_
  refine lv_lor hx hb dX5_bits_32 ?_
  refine tk_l (Int32.toInt64 0) (by decide) ?_
  refine lv_lstore_n (lv' := [(3, .long (Int32.toInt64 0)), (5, .int 0), (0, .ref (a 10)), (1, .int 0), (2, .int 4)]) hx hb dX5_bits_33 rfl hl (by decide) rfl (fun ls hl => ?_)
  refine lv_iinc (v := 1) (lv' := [(5, .int 1), (3, .long (Int32.toInt64 0)), (0, .ref (a 10)), (1, .int 0), (2, .int 4)]) hx hb dX5_bits_34 hl (k := 1) rfl (by decide) (by decide) rfl (fun ls hl => ?_)
  refine lv_goto (tgt := 5) hx hb dX5_bits_37 (by decide) ?_
  refine lv_iload hx hb dX5_bits_5 (lv_at hl 0 rfl) ?_
  refine lv_iload_n hx hb dX5_bits_7 rfl (lv_at hl 3 rfl) ?_
  refine lv_iload_n hx hb dX5_bits_8 rfl (lv_at hl 4 rfl) ?_
  refine lv_iadd hx hb dX5_bits_9 ?_
  refine tk_i 4 (by decide) ?_
  refine lv_icmp_ge (tgt := 40) hx hb dX5_bits_10 (by decide) (fun c9_ => absurd c9_ (by decide)) (fun _ => ?_)
  refine lv_lload_n hx hb dX5_bits_13 rfl (lv_at hl 1 rfl) ?_
  refine lv_aload_n hx hb dX5_bits_14 rfl (lv_at hl 2 rfl) ?_
  refine lv_iload hx hb dX5_bits_15 (lv_at hl 0 rfl) ?_
  refine va_iald hx hb hK hP 10 0 rfl rfl (show ¬ ((1 : Int32) < 0 ∨ 128 ≤ Int32.toNatClampNeg 1) by decide) dX5_bits_17 ?_
  refine tk_i (-1) (by rfl) ?_
  refine lv_iconst (v := (-1)) hx hb dX5_bits_18 (by decide) ?_
  refine lv_icmp_ne (tgt := 26) hx hb dX5_bits_19 (by decide) (fun c9_ => absurd (by decide) c9_) (fun _ => ?_)
  refine lv_lconst (v := 0) hx hb dX5_bits_22 (by decide) ?_
  refine tk_l (Int32.toInt64 0) (by decide) ?_
  refine lv_goto (tgt := 32) hx hb dX5_bits_23 (by decide) ?_
  refine lv_lor hx hb dX5_bits_32 ?_
  refine tk_l (Int32.toInt64 0) (by decide) ?_
  refine lv_lstore_n (lv' := [(3, .long (Int32.toInt64 0)), (5, .int 1), (0, .ref (a 10)), (1, .int 0), (2, .int 4)]) hx hb dX5_bits_33 rfl hl (by decide) rfl (fun ls hl => ?_)
  refine lv_iinc (v := 2) (lv' := [(5, .int 2), (3, .long (Int32.toInt64 0)), (0, .ref (a 10)), (1, .int 0), (2, .int 4)]) hx hb dX5_bits_34 hl (k := 1) rfl (by decide) (by decide) rfl (fun ls hl => ?_)
  refine lv_goto (tgt := 5) hx hb dX5_bits_37 (by decide) ?_
  refine lv_iload hx hb dX5_bits_5 (lv_at hl 0 rfl) ?_
  refine lv_iload_n hx hb dX5_bits_7 rfl (lv_at hl 3 rfl) ?_
  refine lv_iload_n hx hb dX5_bits_8 rfl (lv_at hl 4 rfl) ?_
  refine lv_iadd hx hb dX5_bits_9 ?_
  refine tk_i 4 (by decide) ?_
  refine lv_icmp_ge (tgt := 40) hx hb dX5_bits_10 (by decide) (fun c9_ => absurd c9_ (by decide)) (fun _ => ?_)
  refine lv_lload_n hx hb dX5_bits_13 rfl (lv_at hl 1 rfl) ?_
  refine lv_aload_n hx hb dX5_bits_14 rfl (lv_at hl 2 rfl) ?_
  refine lv_iload hx hb dX5_bits_15 (lv_at hl 0 rfl) ?_
  refine va_iald hx hb hK hP 10 0 rfl rfl (show ¬ ((2 : Int32) < 0 ∨ 128 ≤ Int32.toNatClampNeg 2) by decide) dX5_bits_17 ?_
  refine tk_i (-1) (by rfl) ?_
  refine lv_iconst (v := (-1)) hx hb dX5_bits_18 (by decide) ?_
  refine lv_icmp_ne (tgt := 26) hx hb dX5_bits_19 (by decide) (fun c9_ => absurd (by decide) c9_) (fun _ => ?_)
  refine lv_lconst (v := 0) hx hb dX5_bits_22 (by decide) ?_
  refine tk_l (Int32.toInt64 0) (by decide) ?_
  refine lv_goto (tgt := 32) hx hb dX5_bits_23 (by decide) ?_
  refine lv_lor hx hb dX5_bits_32 ?_
  refine tk_l (Int32.toInt64 0) (by decide) ?_
  refine lv_lstore_n (lv' := [(3, .long (Int32.toInt64 0)), (5, .int 2), (0, .ref (a 10)), (1, .int 0), (2, .int 4)]) hx hb dX5_bits_33 rfl hl (by decide) rfl (fun ls hl => ?_)
  refine lv_iinc (v := 3) (lv' := [(5, .int 3), (3, .long (Int32.toInt64 0)), (0, .ref (a 10)), (1, .int 0), (2, .int 4)]) hx hb dX5_bits_34 hl (k := 1) rfl (by decide) (by decide) rfl (fun ls hl => ?_)
  refine lv_goto (tgt := 5) hx hb dX5_bits_37 (by decide) ?_
  refine lv_iload hx hb dX5_bits_5 (lv_at hl 0 rfl) ?_
  refine lv_iload_n hx hb dX5_bits_7 rfl (lv_at hl 3 rfl) ?_
  refine lv_iload_n hx hb dX5_bits_8 rfl (lv_at hl 4 rfl) ?_
  refine lv_iadd hx hb dX5_bits_9 ?_
  refine tk_i 4 (by decide) ?_
  refine lv_icmp_ge (tgt := 40) hx hb dX5_bits_10 (by decide) (fun c9_ => absurd c9_ (by decide)) (fun _ => ?_)
  refine lv_lload_n hx hb dX5_bits_13 rfl (lv_at hl 1 rfl) ?_
  refine lv_aload_n hx hb dX5_bits_14 rfl (lv_at hl 2 rfl) ?_
  refine lv_iload hx hb dX5_bits_15 (lv_at hl 0 rfl) ?_
  refine va_iald hx hb hK hP 10 0 rfl rfl (show ¬ ((3 : Int32) < 0 ∨ 128 ≤ Int32.toNatClampNeg 3) by decide) dX5_bits_17 ?_
  refine tk_i (-1) (by rfl) ?_
  refine lv_iconst (v := (-1)) hx hb dX5_bits_18 (by decide) ?_
  refine lv_icmp_ne (tgt := 26) hx hb dX5_bits_19 (by decide) (fun c9_ => absurd (by decide) c9_) (fun _ => ?_)
  refine lv_lconst (v := 0) hx hb dX5_bits_22 (by decide) ?_
  refine tk_l (Int32.toInt64 0) (by decide) ?_
  refine lv_goto (tgt := 32) hx hb dX5_bits_23 (by decide) ?_
  refine lv_lor hx hb dX5_bits_32 ?_
  refine tk_l (Int32.toInt64 0) (by decide) ?_
  refine lv_lstore_n (lv' := [(3, .long (Int32.toInt64 0)), (5, .int 3), (0, .ref (a 10)), (1, .int 0), (2, .int 4)]) hx hb dX5_bits_33 rfl hl (by decide) rfl (fun ls hl => ?_)
  refine lv_iinc (v := 4) (lv' := [(5, .int 4), (3, .long (Int32.toInt64 0)), (0, .ref (a 10)), (1, .int 0), (2, .int 4)]) hx hb dX5_bits_34 hl (k := 1) rfl (by decide) (by decide) rfl (fun ls hl => ?_)
  refine lv_goto (tgt := 5) hx hb dX5_bits_37 (by decide) ?_
  refine lv_iload hx hb dX5_bits_5 (lv_at hl 0 rfl) ?_
  refine lv_iload_n hx hb dX5_bits_7 rfl (lv_at hl 3 rfl) ?_
  refine lv_iload_n hx hb dX5_bits_8 rfl (lv_at hl 4 rfl) ?_
  refine lv_iadd hx hb dX5_bits_9 ?_
  refine tk_i 4 (by decide) ?_
  refine lv_icmp_ge (tgt := 40) hx hb dX5_bits_10 (by decide) (fun _ => ?_) (fun c9_ => absurd (by decide) c9_)
  refine lv_lload_n hx hb dX5_bits_40 rfl (lv_at hl 1 rfl) ?_
  exact W.lret (v := (Int32.toInt64 0)) hx hb hr (fun t ht hW => ⟨⟨(Int32.toInt64 0), (), rfl, rfl, trivial⟩, hS.F ht⟩) hS.2.2 dX5_bits_41

theorem dX5_needs_0 : decode cX5_needs 0 = .ok (.aload_n 0, 1) := by decide +kernel
theorem dX5_needs_1 : decode cX5_needs 1 = .ok (.getfield 22, 3) := by decide +kernel
theorem dX5_needs_4 : decode cX5_needs 4 = .ok (.getfield 80, 3) := by decide +kernel
theorem dX5_needs_7 : decode cX5_needs 7 = .ok (.iload_n 1, 1) := by decide +kernel
theorem dX5_needs_8 : decode cX5_needs 8 = .ok (.bipush 6, 2) := by decide +kernel
theorem dX5_needs_10 : decode cX5_needs 10 = .ok (.imul, 1) := by decide +kernel
theorem dX5_needs_11 : decode cX5_needs 11 = .ok (.bipush 6, 2) := by decide +kernel
theorem dX5_needs_13 : decode cX5_needs 13 = .ok (.invokestatic 159, 3) := by decide +kernel
theorem dX5_needs_16 : decode cX5_needs 16 = .ok (.aload_n 0, 1) := by decide +kernel
theorem dX5_needs_17 : decode cX5_needs 17 = .ok (.getfield 22, 3) := by decide +kernel
theorem dX5_needs_20 : decode cX5_needs 20 = .ok (.getfield 116, 3) := by decide +kernel
theorem dX5_needs_23 : decode cX5_needs 23 = .ok (.iload_n 1, 1) := by decide +kernel
theorem dX5_needs_24 : decode cX5_needs 24 = .ok (.iconst 4, 1) := by decide +kernel
theorem dX5_needs_25 : decode cX5_needs 25 = .ok (.imul, 1) := by decide +kernel
theorem dX5_needs_26 : decode cX5_needs 26 = .ok (.iconst 4, 1) := by decide +kernel
theorem dX5_needs_27 : decode cX5_needs 27 = .ok (.invokestatic 159, 3) := by decide +kernel
theorem dX5_needs_30 : decode cX5_needs 30 = .ok (.lor, 1) := by decide +kernel
theorem dX5_needs_31 : decode cX5_needs 31 = .ok (.lreturn, 1) := by decide +kernel
def v_X5_needs : List Cond := .code yX5_needs cX5_needs 2 (some .long) :: ([.fieldLink RX5 22 "RestBoard$Powers" "now" "LRestBoard$State;", .fieldLink RX5 80 "RestBoard$State" "wanting" "[I", .fieldLink RX5 116 "RestBoard$State" "tied" "[I", .methodLink RX5 159 yX5_bits, .static yX5_bits, .initialized RX5, .code yX5_bits cX5_bits 6 (some .long)] ++ wsX50 ++ wsX80)
theorem m_X5_needs_0 : (.fieldLink RX5 22 "RestBoard$Powers" "now" "LRestBoard$State;" : Cond) ∈ v_X5_needs := List.mem_of_getElem? (i := 1) (by decide +kernel)
theorem m_X5_needs_1 : (.fieldLink RX5 80 "RestBoard$State" "wanting" "[I" : Cond) ∈ v_X5_needs := List.mem_of_getElem? (i := 2) (by decide +kernel)
theorem m_X5_needs_2 : (.fieldLink RX5 116 "RestBoard$State" "tied" "[I" : Cond) ∈ v_X5_needs := List.mem_of_getElem? (i := 3) (by decide +kernel)
theorem i_X5_needs_X5 : ∀ w ∈ u_ws RX5 TX5 4, w ∈ v_X5_needs := fun w h => List.mem_cons_of_mem _ (List.mem_append_left _ (List.mem_append_right _ h))
theorem i_X5_needs_X8 : ∀ w ∈ u_ws RX8 TX8 17, w ∈ v_X5_needs := fun w h => List.mem_cons_of_mem _ (List.mem_append_right _ h)
set_option maxRecDepth 100000 in
theorem gg_X5_needs_X5_bits_159 : GoodIn v_X5_needs v_X5_bits := goodIn_r _ [7] (by decide +kernel) (by decide +kernel)
set_option maxRecDepth 100000 in
theorem g_X5_needs_X5_bits_159 : GoodIn v_X5_needs (va_wsS RX5 159 yX5_bits v_X5_bits) := goodIn_app (goodIn_r _ [4, 5, 6] (by decide +kernel) (by decide +kernel)) gg_X5_needs_X5_bits_159
set_option maxHeartbeats 4000000 in
set_option maxRecDepth 100000 in
theorem c_X5_needs (l : Launch) (dC : Nat → ClassId) (dI : Nat → Nat → Nat) (cy : Nat → ClassId) (a : Nat → Nat) (g : Nat → Nat → Option Nat) : Met l yX5_needs v_X5_needs ({ frames := 1, cells := 0, slots := 0, locals := 25 }) (va_Pc [.ref (a 30), .int 0] (pp dC dI cy (fw a cy g))) (va_Ql (fun (r : Int64) (_ : Unit) => r = (Int32.toInt64 0)) (fun _ _ => True) (fun _ => False)) 0 0 (fun _ => False) := by
  refine Met.ofW (cc := cX5_needs) (maxL := 2) (ret := (some .long)) (by decide) rfl ?_
  intro p e s m args below meth c s₁ B hml hv
  obtain ⟨rfl, hP, hC⟩ := hv
  have hK := hC.1
  have hx := B.exec
  have hb := B.bytes
  have hr := B.returns
  have hts := atoms_spec (ws := v_X5_needs) B.pre
  have hown : s.vm.findClass RX5 = some m.cls := findClass_of_methodNamed B.named
  have hlocks := B.notSynchronized
  have hS : va_S (fun _ => False) s.heap s.heap [] := va_S.rf
  have hl := lv_entry ([.ref (a 30), .int 0]) (n := 2) (Nat.le_of_ble_eq_true rfl)
  rw [lg_entry_eq]
  generalize (lg_sl ([.ref (a 30), .int 0]) ++ List.replicate (2 - (lg_sl ([.ref (a 30), .int 0])).length) Slot.unset).toArray = ls at hl ⊢
  have hl : lv_has ls 2 [(0, .ref (a 30)), (1, .int 0)] := hl
  refine lv_aload_n hx hb dX5_needs_0 rfl (lv_at hl 0 rfl) ?_
  refine va_get (D := (dC, dI)) (ci := 5) (v := .ref (a 1)) (C := RX5) (T := TX5) (N := 4) hx hb hts i_X5_needs_X5 hown hK hP 30 rfl rfl 1 (by decide) (hts _ m_X5_needs_0) (fun _ h9 => h9) rfl dX5_needs_1 ?_
  refine va_get (D := (dC, dI)) (ci := 8) (v := .ref (a 9)) (C := RX8) (T := TX8) (N := 17) hx hb hts i_X5_needs_X8 hown hK hP 1 rfl rfl 10 (by decide) (hts _ m_X5_needs_1) (fun _ h9 => h9) rfl dX5_needs_4 ?_
  refine lv_iload_n hx hb dX5_needs_7 rfl (lv_at hl 1 rfl) ?_
  refine lv_bipush (v := 6) hx hb dX5_needs_8 (by decide) ?_
  refine lv_imul hx hb dX5_needs_10 ?_
  refine tk_i 0 (by decide) ?_
  refine lv_bipush (v := 6) hx hb dX5_needs_11 (by decide) ?_
  refine tk_pl (va_runS (As := [.ref (a 9), .int 0, .int 6]) (rest := []) ⟨hx, hb, hml, hown, hts⟩ (c_X5_bits_w l dC dI cy a g) (va_cwS 3 hts g_X5_needs_X5_bits_159 rfl rfl rfl (by decide +kernel) ⟨Nat.le_of_ble_eq_true rfl, Nat.le_of_ble_eq_true rfl⟩) (pS_pp hC hP) rfl rfl hl.1 rfl (lv_room (Nat.le_of_ble_eq_true rfl)) dX5_needs_13 ⟨Nat.le_of_ble_eq_true rfl, Nat.le_of_ble_eq_true rfl⟩) hP hS (fun r_ H locs hw hP hS => ?_)
  subst hw
  refine lv_aload_n hx hb dX5_needs_16 rfl (lv_at hl 0 rfl) ?_
  refine va_get (D := (dC, dI)) (ci := 5) (v := .ref (a 1)) (C := RX5) (T := TX5) (N := 4) hx hb hts i_X5_needs_X5 hown hK hP 30 rfl rfl 1 (by decide) (hts _ m_X5_needs_0) (fun _ h9 => h9) rfl dX5_needs_17 ?_
  refine va_get (D := (dC, dI)) (ci := 8) (v := .ref (a 10)) (C := RX8) (T := TX8) (N := 17) hx hb hts i_X5_needs_X8 hown hK hP 1 rfl rfl 11 (by decide) (hts _ m_X5_needs_2) (fun _ h9 => h9) rfl dX5_needs_20 ?_
  refine lv_iload_n hx hb dX5_needs_23 rfl (lv_at hl 1 rfl) ?_
  refine lv_iconst (v := 4) hx hb dX5_needs_24 (by decide) ?_
  refine lv_imul hx hb dX5_needs_25 ?_
  refine tk_i 0 (by decide) ?_
  refine lv_iconst (v := 4) hx hb dX5_needs_26 (by decide) ?_
  refine tk_pl (va_runS (As := [.ref (a 10), .int 0, .int 4]) (rest := [.long (Int32.toInt64 0)]) ⟨hx, hb, hml, hown, hts⟩ (c_X5_bits_t l dC dI cy a g) (va_cwS 3 hts g_X5_needs_X5_bits_159 rfl rfl rfl (by decide +kernel) ⟨Nat.le_of_ble_eq_true rfl, Nat.le_of_ble_eq_true rfl⟩) (pS_pp hC hP) rfl rfl hl.1 rfl (lv_room (Nat.le_of_ble_eq_true rfl)) dX5_needs_27 ⟨Nat.le_of_ble_eq_true rfl, Nat.le_of_ble_eq_true rfl⟩) hP hS (fun r_ H locs hw hP hS => ?_)
  subst hw
  refine lv_lor hx hb dX5_needs_30 ?_
  refine tk_l (Int32.toInt64 0) (by decide) ?_
  exact W.lret (v := (Int32.toInt64 0)) hx hb hr (fun t ht hW => ⟨⟨(Int32.toInt64 0), (), rfl, rfl, trivial⟩, hS.F ht⟩) hS.2.2 dX5_needs_31

theorem dX5_resourcesOn_0 : decode cX5_resourcesOn 0 = .ok (.iconst 0, 1) := by decide +kernel
theorem dX5_resourcesOn_1 : decode cX5_resourcesOn 1 = .ok (.istore_n 1, 1) := by decide +kernel
theorem dX5_resourcesOn_2 : decode cX5_resourcesOn 2 = .ok (.iconst 0, 1) := by decide +kernel
theorem dX5_resourcesOn_3 : decode cX5_resourcesOn 3 = .ok (.istore_n 2, 1) := by decide +kernel
theorem dX5_resourcesOn_4 : decode cX5_resourcesOn 4 = .ok (.iload_n 2, 1) := by decide +kernel
theorem dX5_resourcesOn_5 : decode cX5_resourcesOn 5 = .ok (.aload_n 0, 1) := by decide +kernel
theorem dX5_resourcesOn_6 : decode cX5_resourcesOn 6 = .ok (.getfield 22, 3) := by decide +kernel
theorem dX5_resourcesOn_9 : decode cX5_resourcesOn 9 = .ok (.getfield 63, 3) := by decide +kernel
theorem dX5_resourcesOn_12 : decode cX5_resourcesOn 12 = .ok (.if_icmp .ge 45, 3) := by decide +kernel
theorem dX5_resourcesOn_15 : decode cX5_resourcesOn 15 = .ok (.iload_n 1, 1) := by decide +kernel
theorem dX5_resourcesOn_16 : decode cX5_resourcesOn 16 = .ok (.aload_n 0, 1) := by decide +kernel
theorem dX5_resourcesOn_17 : decode cX5_resourcesOn 17 = .ok (.getfield 18, 3) := by decide +kernel
theorem dX5_resourcesOn_20 : decode cX5_resourcesOn 20 = .ok (.getfield 36, 3) := by decide +kernel
theorem dX5_resourcesOn_23 : decode cX5_resourcesOn 23 = .ok (.iload_n 2, 1) := by decide +kernel
theorem dX5_resourcesOn_24 : decode cX5_resourcesOn 24 = .ok (.aaload, 1) := by decide +kernel
theorem dX5_resourcesOn_25 : decode cX5_resourcesOn 25 = .ok (.getfield 66, 3) := by decide +kernel
theorem dX5_resourcesOn_28 : decode cX5_resourcesOn 28 = .ok (.iconst 2, 1) := by decide +kernel
theorem dX5_resourcesOn_29 : decode cX5_resourcesOn 29 = .ok (.if_icmp .ne 19, 3) := by decide +kernel
theorem dX5_resourcesOn_48 : decode cX5_resourcesOn 48 = .ok (.iconst 0, 1) := by decide +kernel
theorem dX5_resourcesOn_49 : decode cX5_resourcesOn 49 = .ok (.iadd, 1) := by decide +kernel
theorem dX5_resourcesOn_50 : decode cX5_resourcesOn 50 = .ok (.istore_n 1, 1) := by decide +kernel
theorem dX5_resourcesOn_51 : decode cX5_resourcesOn 51 = .ok (.iinc 2 1, 3) := by decide +kernel
theorem dX5_resourcesOn_54 : decode cX5_resourcesOn 54 = .ok (.goto (-50), 3) := by decide +kernel
theorem dX5_resourcesOn_57 : decode cX5_resourcesOn 57 = .ok (.iload_n 1, 1) := by decide +kernel
theorem dX5_resourcesOn_58 : decode cX5_resourcesOn 58 = .ok (.ireturn, 1) := by decide +kernel
def v_X5_resourcesOn : List Cond := .code yX5_resourcesOn cX5_resourcesOn 3 (some .int) :: ([.fieldLink RX5 22 "RestBoard$Powers" "now" "LRestBoard$State;", .fieldLink RX5 63 "RestBoard$State" "size" "I", .fieldLink RX5 18 "RestBoard$Powers" "tree" "LRestBoard$Tree;", .fieldLink RX5 36 "RestBoard$Tree" "nodes" "[LRestBoard$Node;", .fieldLink RX5 66 "RestBoard$Node" "kind" "I"] ++ wsX50 ++ wsX80 ++ wsX100 ++ wsX40)
theorem m_X5_resourcesOn_0 : (.fieldLink RX5 22 "RestBoard$Powers" "now" "LRestBoard$State;" : Cond) ∈ v_X5_resourcesOn := List.mem_of_getElem? (i := 1) (by decide +kernel)
theorem m_X5_resourcesOn_1 : (.fieldLink RX5 63 "RestBoard$State" "size" "I" : Cond) ∈ v_X5_resourcesOn := List.mem_of_getElem? (i := 2) (by decide +kernel)
theorem m_X5_resourcesOn_2 : (.fieldLink RX5 18 "RestBoard$Powers" "tree" "LRestBoard$Tree;" : Cond) ∈ v_X5_resourcesOn := List.mem_of_getElem? (i := 3) (by decide +kernel)
theorem m_X5_resourcesOn_3 : (.fieldLink RX5 36 "RestBoard$Tree" "nodes" "[LRestBoard$Node;" : Cond) ∈ v_X5_resourcesOn := List.mem_of_getElem? (i := 4) (by decide +kernel)
theorem m_X5_resourcesOn_4 : (.fieldLink RX5 66 "RestBoard$Node" "kind" "I" : Cond) ∈ v_X5_resourcesOn := List.mem_of_getElem? (i := 5) (by decide +kernel)
theorem i_X5_resourcesOn_X5 : ∀ w ∈ u_ws RX5 TX5 4, w ∈ v_X5_resourcesOn := fun w h => List.mem_cons_of_mem _ (List.mem_append_left _ (List.mem_append_left _ (List.mem_append_left _ (List.mem_append_right _ h))))
theorem i_X5_resourcesOn_X8 : ∀ w ∈ u_ws RX8 TX8 17, w ∈ v_X5_resourcesOn := fun w h => List.mem_cons_of_mem _ (List.mem_append_left _ (List.mem_append_left _ (List.mem_append_right _ h)))
theorem i_X5_resourcesOn_X10 : ∀ w ∈ u_ws RX10 TX10 2, w ∈ v_X5_resourcesOn := fun w h => List.mem_cons_of_mem _ (List.mem_append_left _ (List.mem_append_right _ h))
theorem i_X5_resourcesOn_X4 : ∀ w ∈ u_ws RX4 TX4 14, w ∈ v_X5_resourcesOn := fun w h => List.mem_cons_of_mem _ (List.mem_append_right _ h)
set_option maxHeartbeats 4000000 in
set_option maxRecDepth 100000 in
theorem c_X5_resourcesOn (l : Launch) (dC : Nat → ClassId) (dI : Nat → Nat → Nat) (cy : Nat → ClassId) (a : Nat → Nat) (g : Nat → Nat → Option Nat) : Met l yX5_resourcesOn v_X5_resourcesOn ({ frames := 0, cells := 0, slots := 0, locals := 0 }) (va_Pc [.ref (a 30)] (pp dC dI cy (fw a cy g))) (va_Qi (fun (r : Int32) (_ : Unit) => r = 0) (fun _ _ => True) (fun _ => False)) 0 0 (fun _ => False) := by
  refine Met.ofW (cc := cX5_resourcesOn) (maxL := 3) (ret := (some .int)) (by decide) rfl ?_
  intro p e s m args below meth c s₁ B hml hv
  obtain ⟨rfl, hP, hC⟩ := hv
  have hK := hC.1
  have hx := B.exec
  have hb := B.bytes
  have hr := B.returns
  have hts := atoms_spec (ws := v_X5_resourcesOn) B.pre
  have hown : s.vm.findClass RX5 = some m.cls := findClass_of_methodNamed B.named
  have hlocks := B.notSynchronized
  have hS : va_S (fun _ => False) s.heap s.heap [] := va_S.rf
  have hl := lv_entry ([.ref (a 30)]) (n := 3) (Nat.le_of_ble_eq_true rfl)
  rw [lg_entry_eq]
  generalize (lg_sl ([.ref (a 30)]) ++ List.replicate (3 - (lg_sl ([.ref (a 30)])).length) Slot.unset).toArray = ls at hl ⊢
  have hl : lv_has ls 3 [(0, .ref (a 30))] := hl
  refine lv_iconst (v := 0) hx hb dX5_resourcesOn_0 (by decide) ?_
  refine lv_istore_n (lv' := [(1, .int 0), (0, .ref (a 30))]) hx hb dX5_resourcesOn_1 rfl hl (by decide) rfl (fun ls hl => ?_)
  refine lv_iconst (v := 0) hx hb dX5_resourcesOn_2 (by decide) ?_
  refine lv_istore_n (lv' := [(2, .int 0), (1, .int 0), (0, .ref (a 30))]) hx hb dX5_resourcesOn_3 rfl hl (by decide) rfl (fun ls hl => ?_)
  refine lv_iload_n hx hb dX5_resourcesOn_4 rfl (lv_at hl 0 rfl) ?_
  refine lv_aload_n hx hb dX5_resourcesOn_5 rfl (lv_at hl 2 rfl) ?_
  refine va_get (D := (dC, dI)) (ci := 5) (v := .ref (a 1)) (C := RX5) (T := TX5) (N := 4) hx hb hts i_X5_resourcesOn_X5 hown hK hP 30 rfl rfl 1 (by decide) (hts _ m_X5_resourcesOn_0) (fun _ h9 => h9) rfl dX5_resourcesOn_6 ?_
  refine va_get (D := (dC, dI)) (ci := 8) (v := .int 1) (C := RX8) (T := TX8) (N := 17) hx hb hts i_X5_resourcesOn_X8 hown hK hP 1 rfl rfl 0 (by decide) (hts _ m_X5_resourcesOn_1) (fun _ h9 => h9) rfl dX5_resourcesOn_9 ?_
  refine lv_icmp_ge (tgt := 57) hx hb dX5_resourcesOn_12 (by decide) (fun c9_ => absurd c9_ (by decide)) (fun _ => ?_)
  refine lv_iload_n hx hb dX5_resourcesOn_15 rfl (lv_at hl 1 rfl) ?_
  refine lv_aload_n hx hb dX5_resourcesOn_16 rfl (lv_at hl 2 rfl) ?_
  refine va_get (D := (dC, dI)) (ci := 5) (v := .ref (a 21)) (C := RX5) (T := TX5) (N := 4) hx hb hts i_X5_resourcesOn_X5 hown hK hP 30 rfl rfl 0 (by decide) (hts _ m_X5_resourcesOn_2) (fun _ h9 => h9) rfl dX5_resourcesOn_17 ?_
  refine va_get (D := (dC, dI)) (ci := 10) (v := .ref (a 22)) (C := RX10) (T := TX10) (N := 2) hx hb hts i_X5_resourcesOn_X10 hown hK hP 21 rfl rfl 0 (by decide) (hts _ m_X5_resourcesOn_3) (fun _ h9 => h9) rfl dX5_resourcesOn_20 ?_
  refine lv_iload_n hx hb dX5_resourcesOn_23 rfl (lv_at hl 0 rfl) ?_
  refine va_aldq hx hb hK hP 22 1 rfl rfl (show ¬ ((0 : Int32) < 0 ∨ 32 ≤ Int32.toNatClampNeg 0) by decide) dX5_resourcesOn_24 ?_
  refine tk_v (.ref (a 23)) (by rfl) ?_
  refine va_get (D := (dC, dI)) (ci := 4) (v := .int 1) (C := RX4) (T := TX4) (N := 14) hx hb hts i_X5_resourcesOn_X4 hown hK hP 23 rfl rfl 0 (by decide) (hts _ m_X5_resourcesOn_4) (fun _ h9 => h9) rfl dX5_resourcesOn_25 ?_
  refine lv_iconst (v := 2) hx hb dX5_resourcesOn_28 (by decide) ?_
  refine lv_icmp_ne (tgt := 48) hx hb dX5_resourcesOn_29 (by decide) (fun _ => ?_) (fun c9_ => absurd c9_ (by decide))
  refine lv_iconst (v := 0) hx hb dX5_resourcesOn_48 (by decide) ?_
  refine lv_iadd hx hb dX5_resourcesOn_49 ?_
  refine tk_i 0 (by decide) ?_
  refine lv_istore_n (lv' := [(1, .int 0), (2, .int 0), (0, .ref (a 30))]) hx hb dX5_resourcesOn_50 rfl hl (by decide) rfl (fun ls hl => ?_)
  refine lv_iinc (v := 1) (lv' := [(2, .int 1), (1, .int 0), (0, .ref (a 30))]) hx hb dX5_resourcesOn_51 hl (k := 1) rfl (by decide) (by decide) rfl (fun ls hl => ?_)
  refine lv_goto (tgt := 4) hx hb dX5_resourcesOn_54 (by decide) ?_
  refine lv_iload_n hx hb dX5_resourcesOn_4 rfl (lv_at hl 0 rfl) ?_
  refine lv_aload_n hx hb dX5_resourcesOn_5 rfl (lv_at hl 2 rfl) ?_
  refine va_get (D := (dC, dI)) (ci := 5) (v := .ref (a 1)) (C := RX5) (T := TX5) (N := 4) hx hb hts i_X5_resourcesOn_X5 hown hK hP 30 rfl rfl 1 (by decide) (hts _ m_X5_resourcesOn_0) (fun _ h9 => h9) rfl dX5_resourcesOn_6 ?_
  refine va_get (D := (dC, dI)) (ci := 8) (v := .int 1) (C := RX8) (T := TX8) (N := 17) hx hb hts i_X5_resourcesOn_X8 hown hK hP 1 rfl rfl 0 (by decide) (hts _ m_X5_resourcesOn_1) (fun _ h9 => h9) rfl dX5_resourcesOn_9 ?_
  refine lv_icmp_ge (tgt := 57) hx hb dX5_resourcesOn_12 (by decide) (fun _ => ?_) (fun c9_ => absurd (by decide) c9_)
  refine lv_iload_n hx hb dX5_resourcesOn_57 rfl (lv_at hl 1 rfl) ?_
  exact W.iret (v := 0) hx hb hr (fun t ht hW => ⟨⟨0, (), rfl, rfl, trivial⟩, hS.F ht⟩) hS.2.2 dX5_resourcesOn_58

theorem dX5_armedDevices_0 : decode cX5_armedDevices 0 = .ok (.iconst 0, 1) := by decide +kernel
theorem dX5_armedDevices_1 : decode cX5_armedDevices 1 = .ok (.istore_n 1, 1) := by decide +kernel
theorem dX5_armedDevices_2 : decode cX5_armedDevices 2 = .ok (.iconst 0, 1) := by decide +kernel
theorem dX5_armedDevices_3 : decode cX5_armedDevices 3 = .ok (.istore_n 2, 1) := by decide +kernel
theorem dX5_armedDevices_4 : decode cX5_armedDevices 4 = .ok (.iload_n 2, 1) := by decide +kernel
theorem dX5_armedDevices_5 : decode cX5_armedDevices 5 = .ok (.aload_n 0, 1) := by decide +kernel
theorem dX5_armedDevices_6 : decode cX5_armedDevices 6 = .ok (.getfield 22, 3) := by decide +kernel
theorem dX5_armedDevices_9 : decode cX5_armedDevices 9 = .ok (.getfield 63, 3) := by decide +kernel
theorem dX5_armedDevices_12 : decode cX5_armedDevices 12 = .ok (.if_icmp .ge 30, 3) := by decide +kernel
theorem dX5_armedDevices_15 : decode cX5_armedDevices 15 = .ok (.iload_n 1, 1) := by decide +kernel
theorem dX5_armedDevices_16 : decode cX5_armedDevices 16 = .ok (.aload_n 0, 1) := by decide +kernel
theorem dX5_armedDevices_17 : decode cX5_armedDevices 17 = .ok (.getfield 22, 3) := by decide +kernel
theorem dX5_armedDevices_20 : decode cX5_armedDevices 20 = .ok (.getfield 119, 3) := by decide +kernel
theorem dX5_armedDevices_23 : decode cX5_armedDevices 23 = .ok (.iload_n 2, 1) := by decide +kernel
theorem dX5_armedDevices_24 : decode cX5_armedDevices 24 = .ok (.iaload, 1) := by decide +kernel
theorem dX5_armedDevices_25 : decode cX5_armedDevices 25 = .ok (.iconst (-1), 1) := by decide +kernel
theorem dX5_armedDevices_26 : decode cX5_armedDevices 26 = .ok (.if_icmp .ne 7, 3) := by decide +kernel
theorem dX5_armedDevices_29 : decode cX5_armedDevices 29 = .ok (.iconst 0, 1) := by decide +kernel
theorem dX5_armedDevices_30 : decode cX5_armedDevices 30 = .ok (.goto 4, 3) := by decide +kernel
theorem dX5_armedDevices_34 : decode cX5_armedDevices 34 = .ok (.iadd, 1) := by decide +kernel
theorem dX5_armedDevices_35 : decode cX5_armedDevices 35 = .ok (.istore_n 1, 1) := by decide +kernel
theorem dX5_armedDevices_36 : decode cX5_armedDevices 36 = .ok (.iinc 2 1, 3) := by decide +kernel
theorem dX5_armedDevices_39 : decode cX5_armedDevices 39 = .ok (.goto (-35), 3) := by decide +kernel
theorem dX5_armedDevices_42 : decode cX5_armedDevices 42 = .ok (.iload_n 1, 1) := by decide +kernel
theorem dX5_armedDevices_43 : decode cX5_armedDevices 43 = .ok (.ireturn, 1) := by decide +kernel
def v_X5_armedDevices : List Cond := .code yX5_armedDevices cX5_armedDevices 3 (some .int) :: ([.fieldLink RX5 22 "RestBoard$Powers" "now" "LRestBoard$State;", .fieldLink RX5 63 "RestBoard$State" "size" "I", .fieldLink RX5 119 "RestBoard$State" "lines" "[I"] ++ wsX50 ++ wsX80)
theorem m_X5_armedDevices_0 : (.fieldLink RX5 22 "RestBoard$Powers" "now" "LRestBoard$State;" : Cond) ∈ v_X5_armedDevices := List.mem_of_getElem? (i := 1) (by decide +kernel)
theorem m_X5_armedDevices_1 : (.fieldLink RX5 63 "RestBoard$State" "size" "I" : Cond) ∈ v_X5_armedDevices := List.mem_of_getElem? (i := 2) (by decide +kernel)
theorem m_X5_armedDevices_2 : (.fieldLink RX5 119 "RestBoard$State" "lines" "[I" : Cond) ∈ v_X5_armedDevices := List.mem_of_getElem? (i := 3) (by decide +kernel)
theorem i_X5_armedDevices_X5 : ∀ w ∈ u_ws RX5 TX5 4, w ∈ v_X5_armedDevices := fun w h => List.mem_cons_of_mem _ (List.mem_append_left _ (List.mem_append_right _ h))
theorem i_X5_armedDevices_X8 : ∀ w ∈ u_ws RX8 TX8 17, w ∈ v_X5_armedDevices := fun w h => List.mem_cons_of_mem _ (List.mem_append_right _ h)
set_option maxHeartbeats 4000000 in
set_option maxRecDepth 100000 in
theorem c_X5_armedDevices (l : Launch) (dC : Nat → ClassId) (dI : Nat → Nat → Nat) (cy : Nat → ClassId) (a : Nat → Nat) (g : Nat → Nat → Option Nat) : Met l yX5_armedDevices v_X5_armedDevices ({ frames := 0, cells := 0, slots := 0, locals := 0 }) (va_Pc [.ref (a 30)] (pp dC dI cy (fw a cy g))) (va_Qi (fun (r : Int32) (_ : Unit) => r = 0) (fun _ _ => True) (fun _ => False)) 0 0 (fun _ => False) := by
  refine Met.ofW (cc := cX5_armedDevices) (maxL := 3) (ret := (some .int)) (by decide) rfl ?_
  intro p e s m args below meth c s₁ B hml hv
  obtain ⟨rfl, hP, hC⟩ := hv
  have hK := hC.1
  have hx := B.exec
  have hb := B.bytes
  have hr := B.returns
  have hts := atoms_spec (ws := v_X5_armedDevices) B.pre
  have hown : s.vm.findClass RX5 = some m.cls := findClass_of_methodNamed B.named
  have hlocks := B.notSynchronized
  have hS : va_S (fun _ => False) s.heap s.heap [] := va_S.rf
  have hl := lv_entry ([.ref (a 30)]) (n := 3) (Nat.le_of_ble_eq_true rfl)
  rw [lg_entry_eq]
  generalize (lg_sl ([.ref (a 30)]) ++ List.replicate (3 - (lg_sl ([.ref (a 30)])).length) Slot.unset).toArray = ls at hl ⊢
  have hl : lv_has ls 3 [(0, .ref (a 30))] := hl
  refine lv_iconst (v := 0) hx hb dX5_armedDevices_0 (by decide) ?_
  refine lv_istore_n (lv' := [(1, .int 0), (0, .ref (a 30))]) hx hb dX5_armedDevices_1 rfl hl (by decide) rfl (fun ls hl => ?_)
  refine lv_iconst (v := 0) hx hb dX5_armedDevices_2 (by decide) ?_
  refine lv_istore_n (lv' := [(2, .int 0), (1, .int 0), (0, .ref (a 30))]) hx hb dX5_armedDevices_3 rfl hl (by decide) rfl (fun ls hl => ?_)
  refine lv_iload_n hx hb dX5_armedDevices_4 rfl (lv_at hl 0 rfl) ?_
  refine lv_aload_n hx hb dX5_armedDevices_5 rfl (lv_at hl 2 rfl) ?_
  refine va_get (D := (dC, dI)) (ci := 5) (v := .ref (a 1)) (C := RX5) (T := TX5) (N := 4) hx hb hts i_X5_armedDevices_X5 hown hK hP 30 rfl rfl 1 (by decide) (hts _ m_X5_armedDevices_0) (fun _ h9 => h9) rfl dX5_armedDevices_6 ?_
  refine va_get (D := (dC, dI)) (ci := 8) (v := .int 1) (C := RX8) (T := TX8) (N := 17) hx hb hts i_X5_armedDevices_X8 hown hK hP 1 rfl rfl 0 (by decide) (hts _ m_X5_armedDevices_1) (fun _ h9 => h9) rfl dX5_armedDevices_9 ?_
  refine lv_icmp_ge (tgt := 42) hx hb dX5_armedDevices_12 (by decide) (fun c9_ => absurd c9_ (by decide)) (fun _ => ?_)
  refine lv_iload_n hx hb dX5_armedDevices_15 rfl (lv_at hl 1 rfl) ?_
  refine lv_aload_n hx hb dX5_armedDevices_16 rfl (lv_at hl 2 rfl) ?_
  refine va_get (D := (dC, dI)) (ci := 5) (v := .ref (a 1)) (C := RX5) (T := TX5) (N := 4) hx hb hts i_X5_armedDevices_X5 hown hK hP 30 rfl rfl 1 (by decide) (hts _ m_X5_armedDevices_0) (fun _ h9 => h9) rfl dX5_armedDevices_17 ?_
  refine va_get (D := (dC, dI)) (ci := 8) (v := .ref (a 7)) (C := RX8) (T := TX8) (N := 17) hx hb hts i_X5_armedDevices_X8 hown hK hP 1 rfl rfl 8 (by decide) (hts _ m_X5_armedDevices_2) (fun _ h9 => h9) rfl dX5_armedDevices_20 ?_
  refine lv_iload_n hx hb dX5_armedDevices_23 rfl (lv_at hl 0 rfl) ?_
  refine va_iald hx hb hK hP 7 0 rfl rfl (show ¬ ((0 : Int32) < 0 ∨ 32 ≤ Int32.toNatClampNeg 0) by decide) dX5_armedDevices_24 ?_
  refine tk_i (-1) (by rfl) ?_
  refine lv_iconst (v := (-1)) hx hb dX5_armedDevices_25 (by decide) ?_
  refine lv_icmp_ne (tgt := 33) hx hb dX5_armedDevices_26 (by decide) (fun c9_ => absurd (by decide) c9_) (fun _ => ?_)
  refine lv_iconst (v := 0) hx hb dX5_armedDevices_29 (by decide) ?_
  refine lv_goto (tgt := 34) hx hb dX5_armedDevices_30 (by decide) ?_
  refine lv_iadd hx hb dX5_armedDevices_34 ?_
  refine tk_i 0 (by decide) ?_
  refine lv_istore_n (lv' := [(1, .int 0), (2, .int 0), (0, .ref (a 30))]) hx hb dX5_armedDevices_35 rfl hl (by decide) rfl (fun ls hl => ?_)
  refine lv_iinc (v := 1) (lv' := [(2, .int 1), (1, .int 0), (0, .ref (a 30))]) hx hb dX5_armedDevices_36 hl (k := 1) rfl (by decide) (by decide) rfl (fun ls hl => ?_)
  refine lv_goto (tgt := 4) hx hb dX5_armedDevices_39 (by decide) ?_
  refine lv_iload_n hx hb dX5_armedDevices_4 rfl (lv_at hl 0 rfl) ?_
  refine lv_aload_n hx hb dX5_armedDevices_5 rfl (lv_at hl 2 rfl) ?_
  refine va_get (D := (dC, dI)) (ci := 5) (v := .ref (a 1)) (C := RX5) (T := TX5) (N := 4) hx hb hts i_X5_armedDevices_X5 hown hK hP 30 rfl rfl 1 (by decide) (hts _ m_X5_armedDevices_0) (fun _ h9 => h9) rfl dX5_armedDevices_6 ?_
  refine va_get (D := (dC, dI)) (ci := 8) (v := .int 1) (C := RX8) (T := TX8) (N := 17) hx hb hts i_X5_armedDevices_X8 hown hK hP 1 rfl rfl 0 (by decide) (hts _ m_X5_armedDevices_1) (fun _ h9 => h9) rfl dX5_armedDevices_9 ?_
  refine lv_icmp_ge (tgt := 42) hx hb dX5_armedDevices_12 (by decide) (fun _ => ?_) (fun c9_ => absurd (by decide) c9_)
  refine lv_iload_n hx hb dX5_armedDevices_42 rfl (lv_at hl 1 rfl) ?_
  exact W.iret (v := 0) hx hb hr (fun t ht hW => ⟨⟨0, (), rfl, rfl, trivial⟩, hS.F ht⟩) hS.2.2 dX5_armedDevices_43

theorem dX11_refusalToRun_0 : decode cX11_refusalToRun 0 = .ok (.iload_n 2, 1) := by decide +kernel
theorem dX11_refusalToRun_1 : decode cX11_refusalToRun 1 = .ok (.invokestatic 123, 3) := by decide +kernel
theorem dX11_refusalToRun_4 : decode cX11_refusalToRun 4 = .ok (.ifCond .eq 18, 3) := by decide +kernel
theorem dX11_refusalToRun_7 : decode cX11_refusalToRun 7 = .ok (.iload_n 3, 1) := by decide +kernel
theorem dX11_refusalToRun_8 : decode cX11_refusalToRun 8 = .ok (.invokestatic 123, 3) := by decide +kernel
theorem dX11_refusalToRun_11 : decode cX11_refusalToRun 11 = .ok (.ifCond .eq 11, 3) := by decide +kernel
theorem dX11_refusalToRun_14 : decode cX11_refusalToRun 14 = .ok (.iload 4, 2) := by decide +kernel
theorem dX11_refusalToRun_16 : decode cX11_refusalToRun 16 = .ok (.invokestatic 123, 3) := by decide +kernel
theorem dX11_refusalToRun_19 : decode cX11_refusalToRun 19 = .ok (.ifCond .ne 5, 3) := by decide +kernel
theorem dX11_refusalToRun_22 : decode cX11_refusalToRun 22 = .ok (.iconst (-1), 1) := by decide +kernel
theorem dX11_refusalToRun_23 : decode cX11_refusalToRun 23 = .ok (.ireturn, 1) := by decide +kernel
theorem dX11_refusalToRun_24 : decode cX11_refusalToRun 24 = .ok (.aload_n 0, 1) := by decide +kernel
theorem dX11_refusalToRun_25 : decode cX11_refusalToRun 25 = .ok (.getfield 24, 3) := by decide +kernel
theorem dX11_refusalToRun_28 : decode cX11_refusalToRun 28 = .ok (.iload_n 1, 1) := by decide +kernel
theorem dX11_refusalToRun_29 : decode cX11_refusalToRun 29 = .ok (.iconst 3, 1) := by decide +kernel
theorem dX11_refusalToRun_30 : decode cX11_refusalToRun 30 = .ok (.invokevirtual 85, 3) := by decide +kernel
theorem dX11_refusalToRun_33 : decode cX11_refusalToRun 33 = .ok (.ifCond .ne 6, 3) := by decide +kernel
theorem dX11_refusalToRun_36 : decode cX11_refusalToRun 36 = .ok (.bipush (-2), 2) := by decide +kernel
theorem dX11_refusalToRun_38 : decode cX11_refusalToRun 38 = .ok (.ireturn, 1) := by decide +kernel
def v_X11_refusalToRun : List Cond := .code yX11_refusalToRun cX11_refusalToRun 5 (some .int) :: ([.fieldLink RX11 24 "RestBoard" "tree" "LRestBoard$Tree;", .methodLink RX11 123 yX11_isValue, .static yX11_isValue, .initialized RX11, .code yX11_isValue cX11_isValue 1 (some .boolean), .constant RX11 296 (65536), .methodLink RX11 85 yX10_is, .instanceMethod yX10_is, .selects RX10 yX10_is yX10_is, .initialized RX10, .code yX10_is cX10_is 3 (some .boolean), .fieldLink RX10 11 "RestBoard$Tree" "nodes" "[LRestBoard$Node;", .fieldLink RX10 36 "RestBoard$Node" "kind" "I", .methodLink RX10 32 yX10_has, .instanceMethod yX10_has, .selects RX10 yX10_has yX10_has, .code yX10_has cX10_has 2 (some .boolean), .fieldLink RX10 17 "RestBoard$Tree" "now" "LRestBoard$State;", .fieldLink RX10 26 "RestBoard$State" "size" "I"] ++ wsX110 ++ wsX100 ++ wsX40 ++ wsX80)
theorem m_X11_refusalToRun_0 : (.fieldLink RX11 24 "RestBoard" "tree" "LRestBoard$Tree;" : Cond) ∈ v_X11_refusalToRun := List.mem_of_getElem? (i := 1) (by decide +kernel)
theorem i_X11_refusalToRun_X11 : ∀ w ∈ u_ws RX11 TX11 11, w ∈ v_X11_refusalToRun := fun w h => List.mem_cons_of_mem _ (List.mem_append_left _ (List.mem_append_left _ (List.mem_append_left _ (List.mem_append_right _ h))))
set_option maxRecDepth 100000 in
theorem gg_X11_refusalToRun_X11_isValue_123 : GoodIn v_X11_refusalToRun v_X11_isValue := goodIn_r _ [5, 6] (by decide +kernel) (by decide +kernel)
set_option maxRecDepth 100000 in
theorem g_X11_refusalToRun_X11_isValue_123 : GoodIn v_X11_refusalToRun (va_wsS RX11 123 yX11_isValue v_X11_isValue) := goodIn_app (goodIn_r _ [2, 3, 4] (by decide +kernel) (by decide +kernel)) gg_X11_refusalToRun_X11_isValue_123
set_option maxRecDepth 100000 in
theorem gg_X11_refusalToRun_X10_is_85 : GoodIn v_X11_refusalToRun v_X10_is := goodIn_r _ [11, 12, 13, 14, 15, 16, 10, 17, 18, 19, 31, 32, 33, 34, 35, 36, 37, 38, 39, 40, 41, 42, 43, 44, 45, 46, 47, 48, 49, 50, 51, 52, 53, 54, 55, 56, 57, 58, 59, 60, 61, 62, 63] (by decide +kernel) (by decide +kernel)
set_option maxRecDepth 100000 in
theorem g_X11_refusalToRun_X10_is_85 : GoodIn v_X11_refusalToRun (wsV RX11 85 RX10 yX10_is v_X10_is) := goodIn_app (goodIn_r _ [7, 8, 9, 10] (by decide +kernel) (by decide +kernel)) gg_X11_refusalToRun_X10_is_85
set_option maxHeartbeats 4000000 in
set_option maxRecDepth 100000 in
theorem c_X11_refusalToRun (l : Launch) (dC : Nat → ClassId) (dI : Nat → Nat → Nat) (cy : Nat → ClassId) (a : Nat → Nat) (g : Nat → Nat → Option Nat) (p0 p1 p2 p3 : Int32) : Met l yX11_refusalToRun v_X11_refusalToRun ({ frames := 2, cells := 0, slots := 0, locals := 43 }) (va_Pc [.ref (a 0), .int p0, .int p1, .int p2, .int p3] (pp dC dI cy (fw a cy g))) (va_Qi (fun (r : Int32) (_ : Unit) => ((p1 < 0) ∧ r = (-1)) ∨ ((¬ p1 < 0) ∧ ((65536 : Int32) ≤ p1) ∧ r = (-1)) ∨ ((¬ p1 < 0) ∧ (¬ (65536 : Int32) ≤ p1) ∧ (p2 < 0) ∧ r = (-1)) ∨ ((¬ p1 < 0) ∧ (¬ (65536 : Int32) ≤ p1) ∧ (¬ p2 < 0) ∧ ((65536 : Int32) ≤ p2) ∧ r = (-1)) ∨ ((¬ p1 < 0) ∧ (¬ (65536 : Int32) ≤ p1) ∧ (¬ p2 < 0) ∧ (¬ (65536 : Int32) ≤ p2) ∧ (p3 < 0) ∧ r = (-1)) ∨ ((¬ p1 < 0) ∧ (¬ (65536 : Int32) ≤ p1) ∧ (¬ p2 < 0) ∧ (¬ (65536 : Int32) ≤ p2) ∧ (¬ p3 < 0) ∧ ((65536 : Int32) ≤ p3) ∧ r = (-1)) ∨ ((¬ p1 < 0) ∧ (¬ (65536 : Int32) ≤ p1) ∧ (¬ p2 < 0) ∧ (¬ (65536 : Int32) ≤ p2) ∧ (¬ p3 < 0) ∧ (¬ (65536 : Int32) ≤ p3) ∧ (p0 < 0) ∧ r = (-2)) ∨ ((¬ p1 < 0) ∧ (¬ (65536 : Int32) ≤ p1) ∧ (¬ p2 < 0) ∧ (¬ (65536 : Int32) ≤ p2) ∧ (¬ p3 < 0) ∧ (¬ (65536 : Int32) ≤ p3) ∧ (¬ p0 < 0) ∧ ((1 : Int32) ≤ p0) ∧ r = (-2)) ∨ ((¬ p1 < 0) ∧ (¬ (65536 : Int32) ≤ p1) ∧ (¬ p2 < 0) ∧ (¬ (65536 : Int32) ≤ p2) ∧ (¬ p3 < 0) ∧ (¬ (65536 : Int32) ≤ p3) ∧ (p0 = 0) ∧ r = (-2))) (fun _ _ => True) (fun _ => False)) 0 0 (fun _ => False) := by
  refine Met.ofW (cc := cX11_refusalToRun) (maxL := 5) (ret := (some .int)) (by decide) rfl ?_
  intro p e s m args below meth c s₁ B hml hv
  obtain ⟨rfl, hP, hC⟩ := hv
  have hK := hC.1
  have hx := B.exec
  have hb := B.bytes
  have hr := B.returns
  have hts := atoms_spec (ws := v_X11_refusalToRun) B.pre
  have hown : s.vm.findClass RX11 = some m.cls := findClass_of_methodNamed B.named
  have hlocks := B.notSynchronized
  have hS : va_S (fun _ => False) s.heap s.heap [] := va_S.rf
  have hl := lv_entry ([.ref (a 0), .int p0, .int p1, .int p2, .int p3]) (n := 5) (Nat.le_of_ble_eq_true rfl)
  rw [lg_entry_eq]
  generalize (lg_sl ([.ref (a 0), .int p0, .int p1, .int p2, .int p3]) ++ List.replicate (5 - (lg_sl ([.ref (a 0), .int p0, .int p1, .int p2, .int p3])).length) Slot.unset).toArray = ls at hl ⊢
  have hl : lv_has ls 5 [(0, .ref (a 0)), (1, .int p0), (2, .int p1), (3, .int p2), (4, .int p3)] := hl
  refine lv_iload_n hx hb dX11_refusalToRun_0 rfl (lv_at hl 2 rfl) ?_
  refine tk_pi (va_runS (As := [.int p1]) (rest := []) ⟨hx, hb, hml, hown, hts⟩ (c_X11_isValue l dC dI cy  p1) (va_cwS 1 hts g_X11_refusalToRun_X11_isValue_123 rfl rfl rfl (by decide +kernel) ⟨Nat.le_of_ble_eq_true rfl, Nat.le_of_ble_eq_true rfl⟩) (pS_pp hC va_P0) rfl rfl hl.1 rfl (lv_room (Nat.le_of_ble_eq_true rfl)) dX11_refusalToRun_1 ⟨Nat.le_of_ble_eq_true rfl, Nat.le_of_ble_eq_true rfl⟩) hP hS (fun r_ H locs hw hP hS => ?_)
  rcases hw with ⟨c1_, rfl⟩ | ⟨c2_, c3_, rfl⟩ | ⟨c4_, c5_, rfl⟩
  · skip
    refine lv_if_eq (tgt := 22) hx hb dX11_refusalToRun_4 (by decide) (fun _ => ?_) (fun c9_ => absurd (by decide) c9_)
    refine lv_iconst (v := (-1)) hx hb dX11_refusalToRun_22 (by decide) ?_
    exact W.iret (v := (-1)) hx hb hr (fun t ht hW => ⟨⟨(-1), (), rfl, Or.inl (⟨c1_, rfl⟩), trivial⟩, hS.F ht⟩) hS.2.2 dX11_refusalToRun_23
  · skip
    refine lv_if_eq (tgt := 22) hx hb dX11_refusalToRun_4 (by decide) (fun _ => ?_) (fun c9_ => absurd (by decide) c9_)
    refine lv_iconst (v := (-1)) hx hb dX11_refusalToRun_22 (by decide) ?_
    exact W.iret (v := (-1)) hx hb hr (fun t ht hW => ⟨⟨(-1), (), rfl, Or.inr (Or.inl (⟨c2_, c3_, rfl⟩)), trivial⟩, hS.F ht⟩) hS.2.2 dX11_refusalToRun_23
  · skip
    refine lv_if_eq (tgt := 22) hx hb dX11_refusalToRun_4 (by decide) (fun c9_ => absurd c9_ (by decide)) (fun _ => ?_)
    refine lv_iload_n hx hb dX11_refusalToRun_7 rfl (lv_at hl 3 rfl) ?_
    refine tk_pi (va_runS (As := [.int p2]) (rest := []) ⟨hx, hb, hml, hown, hts⟩ (c_X11_isValue l dC dI cy  p2) (va_cwS 1 hts g_X11_refusalToRun_X11_isValue_123 rfl rfl rfl (by decide +kernel) ⟨Nat.le_of_ble_eq_true rfl, Nat.le_of_ble_eq_true rfl⟩) (pS_pp hC va_P0) rfl rfl hl.1 rfl (lv_room (Nat.le_of_ble_eq_true rfl)) dX11_refusalToRun_8 ⟨Nat.le_of_ble_eq_true rfl, Nat.le_of_ble_eq_true rfl⟩) hP hS (fun r_ H locs hw hP hS => ?_)
    rcases hw with ⟨c6_, rfl⟩ | ⟨c7_, c8_, rfl⟩ | ⟨c9_, c10_, rfl⟩
    · skip
      refine lv_if_eq (tgt := 22) hx hb dX11_refusalToRun_11 (by decide) (fun _ => ?_) (fun c9_ => absurd (by decide) c9_)
      refine lv_iconst (v := (-1)) hx hb dX11_refusalToRun_22 (by decide) ?_
      exact W.iret (v := (-1)) hx hb hr (fun t ht hW => ⟨⟨(-1), (), rfl, Or.inr (Or.inr (Or.inl (⟨c4_, c5_, c6_, rfl⟩))), trivial⟩, hS.F ht⟩) hS.2.2 dX11_refusalToRun_23
    · skip
      refine lv_if_eq (tgt := 22) hx hb dX11_refusalToRun_11 (by decide) (fun _ => ?_) (fun c9_ => absurd (by decide) c9_)
      refine lv_iconst (v := (-1)) hx hb dX11_refusalToRun_22 (by decide) ?_
      exact W.iret (v := (-1)) hx hb hr (fun t ht hW => ⟨⟨(-1), (), rfl, Or.inr (Or.inr (Or.inr (Or.inl (⟨c4_, c5_, c7_, c8_, rfl⟩)))), trivial⟩, hS.F ht⟩) hS.2.2 dX11_refusalToRun_23
    · skip
      refine lv_if_eq (tgt := 22) hx hb dX11_refusalToRun_11 (by decide) (fun c9_ => absurd c9_ (by decide)) (fun _ => ?_)
      refine lv_iload hx hb dX11_refusalToRun_14 (lv_at hl 4 rfl) ?_
      refine tk_pi (va_runS (As := [.int p3]) (rest := []) ⟨hx, hb, hml, hown, hts⟩ (c_X11_isValue l dC dI cy  p3) (va_cwS 1 hts g_X11_refusalToRun_X11_isValue_123 rfl rfl rfl (by decide +kernel) ⟨Nat.le_of_ble_eq_true rfl, Nat.le_of_ble_eq_true rfl⟩) (pS_pp hC va_P0) rfl rfl hl.1 rfl (lv_room (Nat.le_of_ble_eq_true rfl)) dX11_refusalToRun_16 ⟨Nat.le_of_ble_eq_true rfl, Nat.le_of_ble_eq_true rfl⟩) hP hS (fun r_ H locs hw hP hS => ?_)
      rcases hw with ⟨c11_, rfl⟩ | ⟨c12_, c13_, rfl⟩ | ⟨c14_, c15_, rfl⟩
      · skip
        refine lv_if_ne (tgt := 24) hx hb dX11_refusalToRun_19 (by decide) (fun c9_ => absurd (by decide) c9_) (fun _ => ?_)
        refine lv_iconst (v := (-1)) hx hb dX11_refusalToRun_22 (by decide) ?_
        exact W.iret (v := (-1)) hx hb hr (fun t ht hW => ⟨⟨(-1), (), rfl, Or.inr (Or.inr (Or.inr (Or.inr (Or.inl (⟨c4_, c5_, c9_, c10_, c11_, rfl⟩))))), trivial⟩, hS.F ht⟩) hS.2.2 dX11_refusalToRun_23
      · skip
        refine lv_if_ne (tgt := 24) hx hb dX11_refusalToRun_19 (by decide) (fun c9_ => absurd (by decide) c9_) (fun _ => ?_)
        refine lv_iconst (v := (-1)) hx hb dX11_refusalToRun_22 (by decide) ?_
        exact W.iret (v := (-1)) hx hb hr (fun t ht hW => ⟨⟨(-1), (), rfl, Or.inr (Or.inr (Or.inr (Or.inr (Or.inr (Or.inl (⟨c4_, c5_, c9_, c10_, c12_, c13_, rfl⟩)))))), trivial⟩, hS.F ht⟩) hS.2.2 dX11_refusalToRun_23
      · skip
        refine lv_if_ne (tgt := 24) hx hb dX11_refusalToRun_19 (by decide) (fun _ => ?_) (fun c9_ => absurd c9_ (by decide))
        refine lv_aload_n hx hb dX11_refusalToRun_24 rfl (lv_at hl 0 rfl) ?_
        refine va_get (D := (dC, dI)) (ci := 11) (v := .ref (a 21)) (C := RX11) (T := TX11) (N := 11) hx hb hts i_X11_refusalToRun_X11 hown hK hP 0 rfl rfl 2 (by decide) (hts _ m_X11_refusalToRun_0) (fun _ h9 => h9) rfl dX11_refusalToRun_25 ?_
        refine lv_iload_n hx hb dX11_refusalToRun_28 rfl (lv_at hl 1 rfl) ?_
        refine lv_iconst (v := 3) hx hb dX11_refusalToRun_29 (by decide) ?_
        refine tk_pi (va_runV (As := [.int p0, .int 3]) (rest := []) ⟨hx, hb, hml, hown, hts⟩ (c_X10_is l dC dI cy a g p0 3) (cwV 2 hts g_X11_refusalToRun_X10_is_85 rfl rfl rfl (by decide +kernel) ⟨Nat.le_of_ble_eq_true rfl, Nat.le_of_ble_eq_true rfl⟩) (pv_pp hC hP (ci := 10) (q0 := 21) rfl rfl) rfl rfl hl.1 rfl (lv_room (Nat.le_of_ble_eq_true rfl)) dX11_refusalToRun_30 ⟨Nat.le_of_ble_eq_true rfl, Nat.le_of_ble_eq_true rfl⟩) hP hS (fun r_ H locs hw hP hS => ?_)
        rcases hw with ⟨c16_, rfl⟩ | ⟨c17_, c18_, rfl⟩ | ⟨c19_, -, rfl⟩ | ⟨c21_, c22_, rfl⟩
        · skip
          refine lv_if_ne (tgt := 39) hx hb dX11_refusalToRun_33 (by decide) (fun c9_ => absurd (by decide) c9_) (fun _ => ?_)
          refine lv_bipush (v := (-2)) hx hb dX11_refusalToRun_36 (by decide) ?_
          exact W.iret (v := (-2)) hx hb hr (fun t ht hW => ⟨⟨(-2), (), rfl, Or.inr (Or.inr (Or.inr (Or.inr (Or.inr (Or.inr (Or.inl (⟨c4_, c5_, c9_, c10_, c14_, c15_, c16_, rfl⟩))))))), trivial⟩, hS.F ht⟩) hS.2.2 dX11_refusalToRun_38
        · skip
          refine lv_if_ne (tgt := 39) hx hb dX11_refusalToRun_33 (by decide) (fun c9_ => absurd (by decide) c9_) (fun _ => ?_)
          refine lv_bipush (v := (-2)) hx hb dX11_refusalToRun_36 (by decide) ?_
          exact W.iret (v := (-2)) hx hb hr (fun t ht hW => ⟨⟨(-2), (), rfl, Or.inr (Or.inr (Or.inr (Or.inr (Or.inr (Or.inr (Or.inr (Or.inl (⟨c4_, c5_, c9_, c10_, c14_, c15_, c17_, c18_, rfl⟩)))))))), trivial⟩, hS.F ht⟩) hS.2.2 dX11_refusalToRun_38
        · skip
          subst c19_
          refine lv_if_ne (tgt := 39) hx hb dX11_refusalToRun_33 (by decide) (fun c9_ => absurd (by decide) c9_) (fun _ => ?_)
          refine lv_bipush (v := (-2)) hx hb dX11_refusalToRun_36 (by decide) ?_
          exact W.iret (v := (-2)) hx hb hr (fun t ht hW => ⟨⟨(-2), (), rfl, Or.inr (Or.inr (Or.inr (Or.inr (Or.inr (Or.inr (Or.inr (Or.inr (⟨c4_, c5_, c9_, c10_, c14_, c15_, rfl, rfl⟩)))))))), trivial⟩, hS.F ht⟩) hS.2.2 dX11_refusalToRun_38
        · skip
          exact absurd c22_ (by decide)

theorem dX11_refusalToChange_0 : decode cX11_refusalToChange 0 = .ok (.iload_n 1, 1) := by decide +kernel
theorem dX11_refusalToChange_1 : decode cX11_refusalToChange 1 = .ok (.ifCond .eq 15, 3) := by decide +kernel
theorem dX11_refusalToChange_4 : decode cX11_refusalToChange 4 = .ok (.aload_n 0, 1) := by decide +kernel
theorem dX11_refusalToChange_5 : decode cX11_refusalToChange 5 = .ok (.getfield 24, 3) := by decide +kernel
theorem dX11_refusalToChange_8 : decode cX11_refusalToChange 8 = .ok (.iload_n 1, 1) := by decide +kernel
theorem dX11_refusalToChange_9 : decode cX11_refusalToChange 9 = .ok (.iconst 1, 1) := by decide +kernel
theorem dX11_refusalToChange_10 : decode cX11_refusalToChange 10 = .ok (.invokevirtual 85, 3) := by decide +kernel
theorem dX11_refusalToChange_13 : decode cX11_refusalToChange 13 = .ok (.ifCond .ne 6, 3) := by decide +kernel
theorem dX11_refusalToChange_16 : decode cX11_refusalToChange 16 = .ok (.bipush (-2), 2) := by decide +kernel
theorem dX11_refusalToChange_18 : decode cX11_refusalToChange 18 = .ok (.ireturn, 1) := by decide +kernel
def v_X11_refusalToChange : List Cond := .code yX11_refusalToChange cX11_refusalToChange 2 (some .int) :: ([.fieldLink RX11 24 "RestBoard" "tree" "LRestBoard$Tree;", .methodLink RX11 85 yX10_is, .instanceMethod yX10_is, .selects RX10 yX10_is yX10_is, .initialized RX10, .code yX10_is cX10_is 3 (some .boolean), .fieldLink RX10 11 "RestBoard$Tree" "nodes" "[LRestBoard$Node;", .fieldLink RX10 36 "RestBoard$Node" "kind" "I", .methodLink RX10 32 yX10_has, .instanceMethod yX10_has, .selects RX10 yX10_has yX10_has, .code yX10_has cX10_has 2 (some .boolean), .fieldLink RX10 17 "RestBoard$Tree" "now" "LRestBoard$State;", .fieldLink RX10 26 "RestBoard$State" "size" "I"] ++ wsX110 ++ wsX100 ++ wsX40 ++ wsX80)
theorem m_X11_refusalToChange_0 : (.fieldLink RX11 24 "RestBoard" "tree" "LRestBoard$Tree;" : Cond) ∈ v_X11_refusalToChange := List.mem_of_getElem? (i := 1) (by decide +kernel)
theorem i_X11_refusalToChange_X11 : ∀ w ∈ u_ws RX11 TX11 11, w ∈ v_X11_refusalToChange := fun w h => List.mem_cons_of_mem _ (List.mem_append_left _ (List.mem_append_left _ (List.mem_append_left _ (List.mem_append_right _ h))))
set_option maxRecDepth 100000 in
theorem gg_X11_refusalToChange_X10_is_85 : GoodIn v_X11_refusalToChange v_X10_is := goodIn_r _ [6, 7, 8, 9, 10, 11, 5, 12, 13, 14, 26, 27, 28, 29, 30, 31, 32, 33, 34, 35, 36, 37, 38, 39, 40, 41, 42, 43, 44, 45, 46, 47, 48, 49, 50, 51, 52, 53, 54, 55, 56, 57, 58] (by decide +kernel) (by decide +kernel)
set_option maxRecDepth 100000 in
theorem g_X11_refusalToChange_X10_is_85 : GoodIn v_X11_refusalToChange (wsV RX11 85 RX10 yX10_is v_X10_is) := goodIn_app (goodIn_r _ [2, 3, 4, 5] (by decide +kernel) (by decide +kernel)) gg_X11_refusalToChange_X10_is_85
set_option maxHeartbeats 4000000 in
set_option maxRecDepth 100000 in
theorem c_X11_refusalToChange (l : Launch) (dC : Nat → ClassId) (dI : Nat → Nat → Nat) (cy : Nat → ClassId) (a : Nat → Nat) (g : Nat → Nat → Option Nat) (p0 : Int32) : Met l yX11_refusalToChange v_X11_refusalToChange ({ frames := 2, cells := 0, slots := 0, locals := 43 }) (va_Pc [.ref (a 0), .int p0] (pp dC dI cy (fw a cy g))) (va_Qi (fun (r : Int32) (_ : Unit) => ((p0 = 0) ∧ r = (-2)) ∨ ((¬ p0 = 0) ∧ (p0 < 0) ∧ r = (-2)) ∨ ((¬ p0 = 0) ∧ (¬ p0 < 0) ∧ ((1 : Int32) ≤ p0) ∧ r = (-2))) (fun _ _ => True) (fun _ => False)) 0 0 (fun _ => False) := by
  refine Met.ofW (cc := cX11_refusalToChange) (maxL := 2) (ret := (some .int)) (by decide) rfl ?_
  intro p e s m args below meth c s₁ B hml hv
  obtain ⟨rfl, hP, hC⟩ := hv
  have hK := hC.1
  have hx := B.exec
  have hb := B.bytes
  have hr := B.returns
  have hts := atoms_spec (ws := v_X11_refusalToChange) B.pre
  have hown : s.vm.findClass RX11 = some m.cls := findClass_of_methodNamed B.named
  have hlocks := B.notSynchronized
  have hS : va_S (fun _ => False) s.heap s.heap [] := va_S.rf
  have hl := lv_entry ([.ref (a 0), .int p0]) (n := 2) (Nat.le_of_ble_eq_true rfl)
  rw [lg_entry_eq]
  generalize (lg_sl ([.ref (a 0), .int p0]) ++ List.replicate (2 - (lg_sl ([.ref (a 0), .int p0])).length) Slot.unset).toArray = ls at hl ⊢
  have hl : lv_has ls 2 [(0, .ref (a 0)), (1, .int p0)] := hl
  refine lv_iload_n hx hb dX11_refusalToChange_0 rfl (lv_at hl 1 rfl) ?_
  refine lv_if_eq (tgt := 16) hx hb dX11_refusalToChange_1 (by decide) (fun c1_ => ?_) (fun c1_ => ?_)
  · skip
    subst c1_
    refine lv_bipush (v := (-2)) hx hb dX11_refusalToChange_16 (by decide) ?_
    exact W.iret (v := (-2)) hx hb hr (fun t ht hW => ⟨⟨(-2), (), rfl, Or.inl (⟨rfl, rfl⟩), trivial⟩, hS.F ht⟩) hS.2.2 dX11_refusalToChange_18
  · skip
    refine lv_aload_n hx hb dX11_refusalToChange_4 rfl (lv_at hl 0 rfl) ?_
    refine va_get (D := (dC, dI)) (ci := 11) (v := .ref (a 21)) (C := RX11) (T := TX11) (N := 11) hx hb hts i_X11_refusalToChange_X11 hown hK hP 0 rfl rfl 2 (by decide) (hts _ m_X11_refusalToChange_0) (fun _ h9 => h9) rfl dX11_refusalToChange_5 ?_
    refine lv_iload_n hx hb dX11_refusalToChange_8 rfl (lv_at hl 1 rfl) ?_
    refine lv_iconst (v := 1) hx hb dX11_refusalToChange_9 (by decide) ?_
    refine tk_pi (va_runV (As := [.int p0, .int 1]) (rest := []) ⟨hx, hb, hml, hown, hts⟩ (c_X10_is l dC dI cy a g p0 1) (cwV 2 hts g_X11_refusalToChange_X10_is_85 rfl rfl rfl (by decide +kernel) ⟨Nat.le_of_ble_eq_true rfl, Nat.le_of_ble_eq_true rfl⟩) (pv_pp hC hP (ci := 10) (q0 := 21) rfl rfl) rfl rfl hl.1 rfl (lv_room (Nat.le_of_ble_eq_true rfl)) dX11_refusalToChange_10 ⟨Nat.le_of_ble_eq_true rfl, Nat.le_of_ble_eq_true rfl⟩) hP hS (fun r_ H locs hw hP hS => ?_)
    rcases hw with ⟨c2_, rfl⟩ | ⟨c3_, c4_, rfl⟩ | ⟨c5_, c6_, rfl⟩ | ⟨c7_, -, rfl⟩
    · skip
      refine lv_if_ne (tgt := 19) hx hb dX11_refusalToChange_13 (by decide) (fun c9_ => absurd (by decide) c9_) (fun _ => ?_)
      refine lv_bipush (v := (-2)) hx hb dX11_refusalToChange_16 (by decide) ?_
      exact W.iret (v := (-2)) hx hb hr (fun t ht hW => ⟨⟨(-2), (), rfl, Or.inr (Or.inl (⟨c1_, c2_, rfl⟩)), trivial⟩, hS.F ht⟩) hS.2.2 dX11_refusalToChange_18
    · skip
      refine lv_if_ne (tgt := 19) hx hb dX11_refusalToChange_13 (by decide) (fun c9_ => absurd (by decide) c9_) (fun _ => ?_)
      refine lv_bipush (v := (-2)) hx hb dX11_refusalToChange_16 (by decide) ?_
      exact W.iret (v := (-2)) hx hb hr (fun t ht hW => ⟨⟨(-2), (), rfl, Or.inr (Or.inr (⟨c1_, c3_, c4_, rfl⟩)), trivial⟩, hS.F ht⟩) hS.2.2 dX11_refusalToChange_18
    · skip
      exact absurd c6_ (by decide)
    · skip
      exfalso
      have z0_ := tz_neq_r c1_ (show (0 : Int32).toInt = 0 by decide)
      have z1_ := tz_eq_r c7_ (show (0 : Int32).toInt = 0 by decide)
      omega

theorem dX11_refusalToPower_0 : decode cX11_refusalToPower 0 = .ok (.iload_n 2, 1) := by decide +kernel
theorem dX11_refusalToPower_1 : decode cX11_refusalToPower 1 = .ok (.ifCond .lt 8, 3) := by decide +kernel
theorem dX11_refusalToPower_4 : decode cX11_refusalToPower 4 = .ok (.iload_n 2, 1) := by decide +kernel
theorem dX11_refusalToPower_5 : decode cX11_refusalToPower 5 = .ok (.iconst 3, 1) := by decide +kernel
theorem dX11_refusalToPower_6 : decode cX11_refusalToPower 6 = .ok (.if_icmp .le 5, 3) := by decide +kernel
theorem dX11_refusalToPower_9 : decode cX11_refusalToPower 9 = .ok (.iconst (-1), 1) := by decide +kernel
theorem dX11_refusalToPower_10 : decode cX11_refusalToPower 10 = .ok (.ireturn, 1) := by decide +kernel
theorem dX11_refusalToPower_11 : decode cX11_refusalToPower 11 = .ok (.aload_n 0, 1) := by decide +kernel
theorem dX11_refusalToPower_12 : decode cX11_refusalToPower 12 = .ok (.iload_n 1, 1) := by decide +kernel
theorem dX11_refusalToPower_13 : decode cX11_refusalToPower 13 = .ok (.invokevirtual 157, 3) := by decide +kernel
theorem dX11_refusalToPower_16 : decode cX11_refusalToPower 16 = .ok (.istore_n 3, 1) := by decide +kernel
theorem dX11_refusalToPower_17 : decode cX11_refusalToPower 17 = .ok (.iload_n 3, 1) := by decide +kernel
theorem dX11_refusalToPower_18 : decode cX11_refusalToPower 18 = .ok (.ifCond .eq 5, 3) := by decide +kernel
theorem dX11_refusalToPower_21 : decode cX11_refusalToPower 21 = .ok (.iload_n 3, 1) := by decide +kernel
theorem dX11_refusalToPower_22 : decode cX11_refusalToPower 22 = .ok (.ireturn, 1) := by decide +kernel
def v_X11_refusalToPower : List Cond := .code yX11_refusalToPower cX11_refusalToPower 5 (some .int) :: ([.methodLink RX11 157 yX11_refusalToChange, .instanceMethod yX11_refusalToChange, .selects RX11 yX11_refusalToChange yX11_refusalToChange, .initialized RX11, .code yX11_refusalToChange cX11_refusalToChange 2 (some .int), .fieldLink RX11 24 "RestBoard" "tree" "LRestBoard$Tree;", .methodLink RX11 85 yX10_is, .instanceMethod yX10_is, .selects RX10 yX10_is yX10_is, .initialized RX10, .code yX10_is cX10_is 3 (some .boolean), .fieldLink RX10 11 "RestBoard$Tree" "nodes" "[LRestBoard$Node;", .fieldLink RX10 36 "RestBoard$Node" "kind" "I", .methodLink RX10 32 yX10_has, .instanceMethod yX10_has, .selects RX10 yX10_has yX10_has, .code yX10_has cX10_has 2 (some .boolean), .fieldLink RX10 17 "RestBoard$Tree" "now" "LRestBoard$State;", .fieldLink RX10 26 "RestBoard$State" "size" "I"] ++ wsX110 ++ wsX100 ++ wsX40 ++ wsX80)
set_option maxRecDepth 100000 in
theorem gg_X11_refusalToPower_X11_refusalToChange_157 : GoodIn v_X11_refusalToPower v_X11_refusalToChange := goodIn_r _ [5, 6, 7, 8, 9, 10, 11, 12, 13, 14, 15, 16, 17, 18, 19, 20, 21, 22, 23, 24, 25, 26, 27, 28, 29, 30, 31, 32, 33, 34, 35, 36, 37, 38, 39, 40, 41, 42, 43, 44, 45, 46, 47, 48, 49, 50, 51, 52, 53, 54, 55, 56, 57, 58, 59, 60, 61, 62, 63] (by decide +kernel) (by decide +kernel)
set_option maxRecDepth 100000 in
theorem g_X11_refusalToPower_X11_refusalToChange_157 : GoodIn v_X11_refusalToPower (wsV RX11 157 RX11 yX11_refusalToChange v_X11_refusalToChange) := goodIn_app (goodIn_r _ [1, 2, 3, 4] (by decide +kernel) (by decide +kernel)) gg_X11_refusalToPower_X11_refusalToChange_157
set_option maxHeartbeats 4000000 in
set_option maxRecDepth 100000 in
theorem c_X11_refusalToPower (l : Launch) (dC : Nat → ClassId) (dI : Nat → Nat → Nat) (cy : Nat → ClassId) (a : Nat → Nat) (g : Nat → Nat → Option Nat) (p0 p1 : Int32) : Met l yX11_refusalToPower v_X11_refusalToPower ({ frames := 3, cells := 0, slots := 0, locals := 64 }) (va_Pc [.ref (a 0), .int p0, .int p1] (pp dC dI cy (fw a cy g))) (va_Qi (fun (r : Int32) (_ : Unit) => ((p1 < 0) ∧ r = (-1)) ∨ ((¬ p1 < 0) ∧ (p1 ≤ 3) ∧ (p0 = 0) ∧ r = (-2)) ∨ ((¬ p1 < 0) ∧ (p1 ≤ 3) ∧ (¬ p0 = 0) ∧ (p0 < 0) ∧ r = (-2)) ∨ ((¬ p1 < 0) ∧ (p1 ≤ 3) ∧ (¬ p0 = 0) ∧ (¬ p0 < 0) ∧ ((1 : Int32) ≤ p0) ∧ r = (-2)) ∨ ((¬ p1 < 0) ∧ (¬ p1 ≤ 3) ∧ r = (-1))) (fun _ _ => True) (fun _ => False)) 0 0 (fun _ => False) := by
  refine Met.ofW (cc := cX11_refusalToPower) (maxL := 5) (ret := (some .int)) (by decide) rfl ?_
  intro p e s m args below meth c s₁ B hml hv
  obtain ⟨rfl, hP, hC⟩ := hv
  have hK := hC.1
  have hx := B.exec
  have hb := B.bytes
  have hr := B.returns
  have hts := atoms_spec (ws := v_X11_refusalToPower) B.pre
  have hown : s.vm.findClass RX11 = some m.cls := findClass_of_methodNamed B.named
  have hlocks := B.notSynchronized
  have hS : va_S (fun _ => False) s.heap s.heap [] := va_S.rf
  have hl := lv_entry ([.ref (a 0), .int p0, .int p1]) (n := 5) (Nat.le_of_ble_eq_true rfl)
  rw [lg_entry_eq]
  generalize (lg_sl ([.ref (a 0), .int p0, .int p1]) ++ List.replicate (5 - (lg_sl ([.ref (a 0), .int p0, .int p1])).length) Slot.unset).toArray = ls at hl ⊢
  have hl : lv_has ls 5 [(0, .ref (a 0)), (1, .int p0), (2, .int p1)] := hl
  refine lv_iload_n hx hb dX11_refusalToPower_0 rfl (lv_at hl 2 rfl) ?_
  refine lv_if_lt (tgt := 9) hx hb dX11_refusalToPower_1 (by decide) (fun c1_ => ?_) (fun c1_ => ?_)
  · skip
    refine lv_iconst (v := (-1)) hx hb dX11_refusalToPower_9 (by decide) ?_
    exact W.iret (v := (-1)) hx hb hr (fun t ht hW => ⟨⟨(-1), (), rfl, Or.inl (⟨c1_, rfl⟩), trivial⟩, hS.F ht⟩) hS.2.2 dX11_refusalToPower_10
  · skip
    refine lv_iload_n hx hb dX11_refusalToPower_4 rfl (lv_at hl 2 rfl) ?_
    refine lv_iconst (v := 3) hx hb dX11_refusalToPower_5 (by decide) ?_
    refine lv_icmp_le (tgt := 11) hx hb dX11_refusalToPower_6 (by decide) (fun c2_ => ?_) (fun c2_ => ?_)
    · skip
      refine lv_aload_n hx hb dX11_refusalToPower_11 rfl (lv_at hl 0 rfl) ?_
      refine lv_iload_n hx hb dX11_refusalToPower_12 rfl (lv_at hl 1 rfl) ?_
      refine tk_pi (va_runV (As := [.int p0]) (rest := []) ⟨hx, hb, hml, hown, hts⟩ (c_X11_refusalToChange l dC dI cy a g p0) (cwV 1 hts g_X11_refusalToPower_X11_refusalToChange_157 rfl rfl rfl (by decide +kernel) ⟨Nat.le_of_ble_eq_true rfl, Nat.le_of_ble_eq_true rfl⟩) (pv_pp hC hP (ci := 11) (q0 := 0) rfl rfl) rfl rfl hl.1 rfl (lv_room (Nat.le_of_ble_eq_true rfl)) dX11_refusalToPower_13 ⟨Nat.le_of_ble_eq_true rfl, Nat.le_of_ble_eq_true rfl⟩) hP hS (fun r_ H locs hw hP hS => ?_)
      rcases hw with ⟨c3_, rfl⟩ | ⟨c4_, c5_, rfl⟩ | ⟨c6_, c7_, c8_, rfl⟩
      · skip
        subst c3_
        refine lv_istore_n (lv' := [(3, .int (-2)), (0, .ref (a 0)), (1, .int 0), (2, .int p1)]) hx hb dX11_refusalToPower_16 rfl hl (by decide) rfl (fun ls hl => ?_)
        refine lv_iload_n hx hb dX11_refusalToPower_17 rfl (lv_at hl 0 rfl) ?_
        refine lv_if_eq (tgt := 23) hx hb dX11_refusalToPower_18 (by decide) (fun c9_ => absurd c9_ (by decide)) (fun _ => ?_)
        refine lv_iload_n hx hb dX11_refusalToPower_21 rfl (lv_at hl 0 rfl) ?_
        exact W.iret (v := (-2)) hx hb hr (fun t ht hW => ⟨⟨(-2), (), rfl, Or.inr (Or.inl (⟨c1_, c2_, rfl, rfl⟩)), trivial⟩, hS.F ht⟩) hS.2.2 dX11_refusalToPower_22
      · skip
        refine lv_istore_n (lv' := [(3, .int (-2)), (0, .ref (a 0)), (1, .int p0), (2, .int p1)]) hx hb dX11_refusalToPower_16 rfl hl (by decide) rfl (fun ls hl => ?_)
        refine lv_iload_n hx hb dX11_refusalToPower_17 rfl (lv_at hl 0 rfl) ?_
        refine lv_if_eq (tgt := 23) hx hb dX11_refusalToPower_18 (by decide) (fun c9_ => absurd c9_ (by decide)) (fun _ => ?_)
        refine lv_iload_n hx hb dX11_refusalToPower_21 rfl (lv_at hl 0 rfl) ?_
        exact W.iret (v := (-2)) hx hb hr (fun t ht hW => ⟨⟨(-2), (), rfl, Or.inr (Or.inr (Or.inl (⟨c1_, c2_, c4_, c5_, rfl⟩))), trivial⟩, hS.F ht⟩) hS.2.2 dX11_refusalToPower_22
      · skip
        refine lv_istore_n (lv' := [(3, .int (-2)), (0, .ref (a 0)), (1, .int p0), (2, .int p1)]) hx hb dX11_refusalToPower_16 rfl hl (by decide) rfl (fun ls hl => ?_)
        refine lv_iload_n hx hb dX11_refusalToPower_17 rfl (lv_at hl 0 rfl) ?_
        refine lv_if_eq (tgt := 23) hx hb dX11_refusalToPower_18 (by decide) (fun c9_ => absurd c9_ (by decide)) (fun _ => ?_)
        refine lv_iload_n hx hb dX11_refusalToPower_21 rfl (lv_at hl 0 rfl) ?_
        exact W.iret (v := (-2)) hx hb hr (fun t ht hW => ⟨⟨(-2), (), rfl, Or.inr (Or.inr (Or.inr (Or.inl (⟨c1_, c2_, c6_, c7_, c8_, rfl⟩)))), trivial⟩, hS.F ht⟩) hS.2.2 dX11_refusalToPower_22
    · skip
      refine lv_iconst (v := (-1)) hx hb dX11_refusalToPower_9 (by decide) ?_
      exact W.iret (v := (-1)) hx hb hr (fun t ht hW => ⟨⟨(-1), (), rfl, Or.inr (Or.inr (Or.inr (Or.inr (⟨c1_, c2_, rfl⟩)))), trivial⟩, hS.F ht⟩) hS.2.2 dX11_refusalToPower_10

theorem dX11_refusalToRest_0 : decode cX11_refusalToRest 0 = .ok (.iload_n 1, 1) := by decide +kernel
theorem dX11_refusalToRest_1 : decode cX11_refusalToRest 1 = .ok (.iconst 1, 1) := by decide +kernel
theorem dX11_refusalToRest_2 : decode cX11_refusalToRest 2 = .ok (.if_icmp .lt 8, 3) := by decide +kernel
theorem dX11_refusalToRest_5 : decode cX11_refusalToRest 5 = .ok (.iload_n 1, 1) := by decide +kernel
theorem dX11_refusalToRest_6 : decode cX11_refusalToRest 6 = .ok (.iconst 4, 1) := by decide +kernel
theorem dX11_refusalToRest_7 : decode cX11_refusalToRest 7 = .ok (.if_icmp .le 5, 3) := by decide +kernel
theorem dX11_refusalToRest_10 : decode cX11_refusalToRest 10 = .ok (.iconst (-1), 1) := by decide +kernel
theorem dX11_refusalToRest_11 : decode cX11_refusalToRest 11 = .ok (.ireturn, 1) := by decide +kernel
theorem dX11_refusalToRest_12 : decode cX11_refusalToRest 12 = .ok (.aload_n 0, 1) := by decide +kernel
theorem dX11_refusalToRest_13 : decode cX11_refusalToRest 13 = .ok (.getfield 10, 3) := by decide +kernel
theorem dX11_refusalToRest_16 : decode cX11_refusalToRest 16 = .ok (.getfield 92, 3) := by decide +kernel
theorem dX11_refusalToRest_19 : decode cX11_refusalToRest 19 = .ok (.ifCond .eq 6, 3) := by decide +kernel
theorem dX11_refusalToRest_25 : decode cX11_refusalToRest 25 = .ok (.aload_n 0, 1) := by decide +kernel
theorem dX11_refusalToRest_26 : decode cX11_refusalToRest 26 = .ok (.getfield 58, 3) := by decide +kernel
theorem dX11_refusalToRest_29 : decode cX11_refusalToRest 29 = .ok (.iload_n 1, 1) := by decide +kernel
theorem dX11_refusalToRest_30 : decode cX11_refusalToRest 30 = .ok (.invokevirtual 239, 3) := by decide +kernel
theorem dX11_refusalToRest_33 : decode cX11_refusalToRest 33 = .ok (.ifCond .eq 8, 3) := by decide +kernel
theorem dX11_refusalToRest_36 : decode cX11_refusalToRest 36 = .ok (.bipush (-4), 2) := by decide +kernel
theorem dX11_refusalToRest_38 : decode cX11_refusalToRest 38 = .ok (.goto 4, 3) := by decide +kernel
theorem dX11_refusalToRest_42 : decode cX11_refusalToRest 42 = .ok (.ireturn, 1) := by decide +kernel
def v_X11_refusalToRest : List Cond := .code yX11_refusalToRest cX11_refusalToRest 2 (some .int) :: ([.fieldLink RX11 10 "RestBoard" "now" "LRestBoard$State;", .fieldLink RX11 92 "RestBoard$State" "resting" "I", .fieldLink RX11 58 "RestBoard" "rests" "LRestBoard$Rests;", .methodLink RX11 239 yX7_obstacle, .instanceMethod yX7_obstacle, .selects RX7 yX7_obstacle yX7_obstacle, .initialized RX7, .code yX7_obstacle cX7_obstacle 4 (some .int), .methodLink RX7 31 yX7_numberOf, .instanceMethod yX7_numberOf, .selects RX7 yX7_numberOf yX7_numberOf, .code yX7_numberOf cX7_numberOf 2 (some .int), .fieldLink RX7 15 "RestBoard$Rests" "tree" "LRestBoard$Tree;", .methodLink RX7 73 yX10_own, .instanceMethod yX10_own, .selects RX10 yX10_own yX10_own, .initialized RX10, .code yX10_own cX10_own 5 (some .int), .fieldLink RX10 17 "RestBoard$Tree" "now" "LRestBoard$State;", .fieldLink RX10 26 "RestBoard$State" "size" "I", .methodLink RX10 49 yX10_child, .instanceMethod yX10_child, .selects RX10 yX10_child yX10_child, .code yX10_child cX10_child 5 (some .int)] ++ wsX110 ++ wsX80 ++ wsX70 ++ wsX100)
theorem m_X11_refusalToRest_0 : (.fieldLink RX11 10 "RestBoard" "now" "LRestBoard$State;" : Cond) ∈ v_X11_refusalToRest := List.mem_of_getElem? (i := 1) (by decide +kernel)
theorem m_X11_refusalToRest_1 : (.fieldLink RX11 92 "RestBoard$State" "resting" "I" : Cond) ∈ v_X11_refusalToRest := List.mem_of_getElem? (i := 2) (by decide +kernel)
theorem m_X11_refusalToRest_2 : (.fieldLink RX11 58 "RestBoard" "rests" "LRestBoard$Rests;" : Cond) ∈ v_X11_refusalToRest := List.mem_of_getElem? (i := 3) (by decide +kernel)
theorem i_X11_refusalToRest_X11 : ∀ w ∈ u_ws RX11 TX11 11, w ∈ v_X11_refusalToRest := fun w h => List.mem_cons_of_mem _ (List.mem_append_left _ (List.mem_append_left _ (List.mem_append_left _ (List.mem_append_right _ h))))
theorem i_X11_refusalToRest_X8 : ∀ w ∈ u_ws RX8 TX8 17, w ∈ v_X11_refusalToRest := fun w h => List.mem_cons_of_mem _ (List.mem_append_left _ (List.mem_append_left _ (List.mem_append_right _ h)))
set_option maxRecDepth 100000 in
theorem gg_X11_refusalToRest_X7_obstacle_239 : GoodIn v_X11_refusalToRest v_X7_obstacle := goodIn_r _ [8, 9, 10, 11, 7, 12, 13, 14, 15, 16, 17, 18, 19, 20, 21, 22, 23, 24, 53, 54, 55, 56, 57, 58, 59, 36, 37, 38, 39, 40, 41, 42, 43, 44, 45, 46, 47, 48, 49, 50, 51, 52] (by decide +kernel) (by decide +kernel)
set_option maxRecDepth 100000 in
theorem g_X11_refusalToRest_X7_obstacle_239 : GoodIn v_X11_refusalToRest (wsV RX11 239 RX7 yX7_obstacle v_X7_obstacle) := goodIn_app (goodIn_r _ [4, 5, 6, 7] (by decide +kernel) (by decide +kernel)) gg_X11_refusalToRest_X7_obstacle_239
set_option maxHeartbeats 4000000 in
set_option maxRecDepth 100000 in
theorem c_X11_refusalToRest (l : Launch) (dC : Nat → ClassId) (dI : Nat → Nat → Nat) (cy : Nat → ClassId) (a : Nat → Nat) (g : Nat → Nat → Option Nat) (p0 : Int32) : Met l yX11_refusalToRest v_X11_refusalToRest ({ frames := 4, cells := 0, slots := 0, locals := 92 }) (va_Pc [.ref (a 0), .int p0] (pp dC dI cy (fw a cy g))) (va_Qi (fun (r : Int32) (_ : Unit) => ((p0 < 1) ∧ r = (-1)) ∨ ((¬ p0 < 1) ∧ (p0 ≤ 4) ∧ r = (-4)) ∨ ((¬ p0 < 1) ∧ (¬ p0 ≤ 4) ∧ r = (-1))) (fun _ _ => True) (fun _ => False)) 0 0 (fun _ => False) := by
  refine Met.ofW (cc := cX11_refusalToRest) (maxL := 2) (ret := (some .int)) (by decide) rfl ?_
  intro p e s m args below meth c s₁ B hml hv
  obtain ⟨rfl, hP, hC⟩ := hv
  have hK := hC.1
  have hx := B.exec
  have hb := B.bytes
  have hr := B.returns
  have hts := atoms_spec (ws := v_X11_refusalToRest) B.pre
  have hown : s.vm.findClass RX11 = some m.cls := findClass_of_methodNamed B.named
  have hlocks := B.notSynchronized
  have hS : va_S (fun _ => False) s.heap s.heap [] := va_S.rf
  have hl := lv_entry ([.ref (a 0), .int p0]) (n := 2) (Nat.le_of_ble_eq_true rfl)
  rw [lg_entry_eq]
  generalize (lg_sl ([.ref (a 0), .int p0]) ++ List.replicate (2 - (lg_sl ([.ref (a 0), .int p0])).length) Slot.unset).toArray = ls at hl ⊢
  have hl : lv_has ls 2 [(0, .ref (a 0)), (1, .int p0)] := hl
  refine lv_iload_n hx hb dX11_refusalToRest_0 rfl (lv_at hl 1 rfl) ?_
  refine lv_iconst (v := 1) hx hb dX11_refusalToRest_1 (by decide) ?_
  refine lv_icmp_lt (tgt := 10) hx hb dX11_refusalToRest_2 (by decide) (fun c1_ => ?_) (fun c1_ => ?_)
  · skip
    refine lv_iconst (v := (-1)) hx hb dX11_refusalToRest_10 (by decide) ?_
    exact W.iret (v := (-1)) hx hb hr (fun t ht hW => ⟨⟨(-1), (), rfl, Or.inl (⟨c1_, rfl⟩), trivial⟩, hS.F ht⟩) hS.2.2 dX11_refusalToRest_11
  · skip
    refine lv_iload_n hx hb dX11_refusalToRest_5 rfl (lv_at hl 1 rfl) ?_
    refine lv_iconst (v := 4) hx hb dX11_refusalToRest_6 (by decide) ?_
    refine lv_icmp_le (tgt := 12) hx hb dX11_refusalToRest_7 (by decide) (fun c2_ => ?_) (fun c2_ => ?_)
    · skip
      refine lv_aload_n hx hb dX11_refusalToRest_12 rfl (lv_at hl 0 rfl) ?_
      refine va_get (D := (dC, dI)) (ci := 11) (v := .ref (a 1)) (C := RX11) (T := TX11) (N := 11) hx hb hts i_X11_refusalToRest_X11 hown hK hP 0 rfl rfl 0 (by decide) (hts _ m_X11_refusalToRest_0) (fun _ h9 => h9) rfl dX11_refusalToRest_13 ?_
      refine va_get (D := (dC, dI)) (ci := 8) (v := .int 0) (C := RX8) (T := TX8) (N := 17) hx hb hts i_X11_refusalToRest_X8 hown hK hP 1 rfl rfl 1 (by decide) (hts _ m_X11_refusalToRest_1) (fun _ h9 => h9) rfl dX11_refusalToRest_16 ?_
      refine lv_if_eq (tgt := 25) hx hb dX11_refusalToRest_19 (by decide) (fun _ => ?_) (fun c9_ => absurd (by decide) c9_)
      refine lv_aload_n hx hb dX11_refusalToRest_25 rfl (lv_at hl 0 rfl) ?_
      refine va_get (D := (dC, dI)) (ci := 11) (v := .ref (a 31)) (C := RX11) (T := TX11) (N := 11) hx hb hts i_X11_refusalToRest_X11 hown hK hP 0 rfl rfl 6 (by decide) (hts _ m_X11_refusalToRest_2) (fun _ h9 => h9) rfl dX11_refusalToRest_26 ?_
      refine lv_iload_n hx hb dX11_refusalToRest_29 rfl (lv_at hl 1 rfl) ?_
      refine tk_pi (va_runV (As := [.int p0]) (rest := []) ⟨hx, hb, hml, hown, hts⟩ (c_X7_obstacle l dC dI cy a g p0) (cwV 1 hts g_X11_refusalToRest_X7_obstacle_239 rfl rfl rfl (by decide +kernel) ⟨Nat.le_of_ble_eq_true rfl, Nat.le_of_ble_eq_true rfl⟩) (pv_pp hC hP (ci := 7) (q0 := 31) rfl rfl) rfl rfl hl.1 rfl (lv_room (Nat.le_of_ble_eq_true rfl)) dX11_refusalToRest_30 ⟨Nat.le_of_ble_eq_true rfl, Nat.le_of_ble_eq_true rfl⟩) hP hS (fun r_ H locs hw hP hS => ?_)
      subst hw
      refine lv_if_eq (tgt := 41) hx hb dX11_refusalToRest_33 (by decide) (fun c9_ => absurd c9_ (by decide)) (fun _ => ?_)
      refine lv_bipush (v := (-4)) hx hb dX11_refusalToRest_36 (by decide) ?_
      refine lv_goto (tgt := 42) hx hb dX11_refusalToRest_38 (by decide) ?_
      exact W.iret (v := (-4)) hx hb hr (fun t ht hW => ⟨⟨(-4), (), rfl, Or.inr (Or.inl (⟨c1_, c2_, rfl⟩)), trivial⟩, hS.F ht⟩) hS.2.2 dX11_refusalToRest_42
    · skip
      refine lv_iconst (v := (-1)) hx hb dX11_refusalToRest_10 (by decide) ?_
      exact W.iret (v := (-1)) hx hb hr (fun t ht hW => ⟨⟨(-1), (), rfl, Or.inr (Or.inr (⟨c1_, c2_, rfl⟩)), trivial⟩, hS.F ht⟩) hS.2.2 dX11_refusalToRest_11

theorem dX11_ofDevice_0 : decode cX11_ofDevice 0 = .ok (.iload_n 2, 1) := by decide +kernel
theorem dX11_ofDevice_1 : decode cX11_ofDevice 1 = .ok (.tableswitch 97 30 33 #[31, 41, 60, 70], 31) := by decide +kernel
theorem dX11_ofDevice_32 : decode cX11_ofDevice 32 = .ok (.aload_n 0, 1) := by decide +kernel
theorem dX11_ofDevice_33 : decode cX11_ofDevice 33 = .ok (.getfield 10, 3) := by decide +kernel
theorem dX11_ofDevice_36 : decode cX11_ofDevice 36 = .ok (.getfield 143, 3) := by decide +kernel
theorem dX11_ofDevice_39 : decode cX11_ofDevice 39 = .ok (.iload_n 1, 1) := by decide +kernel
theorem dX11_ofDevice_40 : decode cX11_ofDevice 40 = .ok (.iaload, 1) := by decide +kernel
theorem dX11_ofDevice_41 : decode cX11_ofDevice 41 = .ok (.ireturn, 1) := by decide +kernel
theorem dX11_ofDevice_42 : decode cX11_ofDevice 42 = .ok (.aload_n 0, 1) := by decide +kernel
theorem dX11_ofDevice_43 : decode cX11_ofDevice 43 = .ok (.getfield 10, 3) := by decide +kernel
theorem dX11_ofDevice_46 : decode cX11_ofDevice 46 = .ok (.getfield 160, 3) := by decide +kernel
theorem dX11_ofDevice_49 : decode cX11_ofDevice 49 = .ok (.iload_n 1, 1) := by decide +kernel
theorem dX11_ofDevice_50 : decode cX11_ofDevice 50 = .ok (.iaload, 1) := by decide +kernel
theorem dX11_ofDevice_51 : decode cX11_ofDevice 51 = .ok (.iconst (-1), 1) := by decide +kernel
theorem dX11_ofDevice_52 : decode cX11_ofDevice 52 = .ok (.if_icmp .ne 7, 3) := by decide +kernel
theorem dX11_ofDevice_55 : decode cX11_ofDevice 55 = .ok (.iconst 0, 1) := by decide +kernel
theorem dX11_ofDevice_56 : decode cX11_ofDevice 56 = .ok (.goto 4, 3) := by decide +kernel
theorem dX11_ofDevice_60 : decode cX11_ofDevice 60 = .ok (.ireturn, 1) := by decide +kernel
theorem dX11_ofDevice_61 : decode cX11_ofDevice 61 = .ok (.aload_n 0, 1) := by decide +kernel
theorem dX11_ofDevice_62 : decode cX11_ofDevice 62 = .ok (.getfield 10, 3) := by decide +kernel
theorem dX11_ofDevice_65 : decode cX11_ofDevice 65 = .ok (.getfield 160, 3) := by decide +kernel
theorem dX11_ofDevice_68 : decode cX11_ofDevice 68 = .ok (.iload_n 1, 1) := by decide +kernel
theorem dX11_ofDevice_69 : decode cX11_ofDevice 69 = .ok (.iaload, 1) := by decide +kernel
theorem dX11_ofDevice_70 : decode cX11_ofDevice 70 = .ok (.ireturn, 1) := by decide +kernel
theorem dX11_ofDevice_71 : decode cX11_ofDevice 71 = .ok (.aload_n 0, 1) := by decide +kernel
theorem dX11_ofDevice_72 : decode cX11_ofDevice 72 = .ok (.getfield 10, 3) := by decide +kernel
theorem dX11_ofDevice_75 : decode cX11_ofDevice 75 = .ok (.getfield 160, 3) := by decide +kernel
theorem dX11_ofDevice_78 : decode cX11_ofDevice 78 = .ok (.iload_n 1, 1) := by decide +kernel
theorem dX11_ofDevice_79 : decode cX11_ofDevice 79 = .ok (.iaload, 1) := by decide +kernel
theorem dX11_ofDevice_80 : decode cX11_ofDevice 80 = .ok (.iconst (-1), 1) := by decide +kernel
theorem dX11_ofDevice_81 : decode cX11_ofDevice 81 = .ok (.if_icmp .ne 7, 3) := by decide +kernel
theorem dX11_ofDevice_84 : decode cX11_ofDevice 84 = .ok (.iconst (-1), 1) := by decide +kernel
theorem dX11_ofDevice_85 : decode cX11_ofDevice 85 = .ok (.goto 12, 3) := by decide +kernel
theorem dX11_ofDevice_97 : decode cX11_ofDevice 97 = .ok (.ireturn, 1) := by decide +kernel
theorem dX11_ofDevice_98 : decode cX11_ofDevice 98 = .ok (.iconst (-1), 1) := by decide +kernel
theorem dX11_ofDevice_99 : decode cX11_ofDevice 99 = .ok (.ireturn, 1) := by decide +kernel
def v_X11_ofDevice : List Cond := .code yX11_ofDevice cX11_ofDevice 3 (some .int) :: ([.fieldLink RX11 10 "RestBoard" "now" "LRestBoard$State;", .fieldLink RX11 143 "RestBoard$State" "powers" "[I", .fieldLink RX11 160 "RestBoard$State" "lines" "[I"] ++ wsX110 ++ wsX80)
theorem m_X11_ofDevice_0 : (.fieldLink RX11 10 "RestBoard" "now" "LRestBoard$State;" : Cond) ∈ v_X11_ofDevice := List.mem_of_getElem? (i := 1) (by decide +kernel)
theorem m_X11_ofDevice_1 : (.fieldLink RX11 143 "RestBoard$State" "powers" "[I" : Cond) ∈ v_X11_ofDevice := List.mem_of_getElem? (i := 2) (by decide +kernel)
theorem m_X11_ofDevice_2 : (.fieldLink RX11 160 "RestBoard$State" "lines" "[I" : Cond) ∈ v_X11_ofDevice := List.mem_of_getElem? (i := 3) (by decide +kernel)
theorem i_X11_ofDevice_X11 : ∀ w ∈ u_ws RX11 TX11 11, w ∈ v_X11_ofDevice := fun w h => List.mem_cons_of_mem _ (List.mem_append_left _ (List.mem_append_right _ h))
theorem i_X11_ofDevice_X8 : ∀ w ∈ u_ws RX8 TX8 17, w ∈ v_X11_ofDevice := fun w h => List.mem_cons_of_mem _ (List.mem_append_right _ h)
set_option maxHeartbeats 4000000 in
set_option maxRecDepth 100000 in
theorem c_X11_ofDevice (l : Launch) (dC : Nat → ClassId) (dI : Nat → Nat → Nat) (cy : Nat → ClassId) (a : Nat → Nat) (g : Nat → Nat → Option Nat) (p1 : Int32) : Met l yX11_ofDevice v_X11_ofDevice ({ frames := 0, cells := 0, slots := 0, locals := 0 }) (va_Pc [.ref (a 0), .int 0, .int p1] (pp dC dI cy (fw a cy g))) (va_Qi (fun (r : Int32) (_ : Unit) => ((p1 = 30) ∧ r = 0) ∨ ((p1 = 31) ∧ r = 0) ∨ ((p1 = 32) ∧ r = (-1)) ∨ ((p1 = 33) ∧ r = (-1)) ∨ ((¬ p1 = 30) ∧ (¬ p1 = 31) ∧ (¬ p1 = 32) ∧ (¬ p1 = 33) ∧ r = (-1))) (fun _ _ => True) (fun _ => False)) 0 0 (fun _ => False) := by
  refine Met.ofW (cc := cX11_ofDevice) (maxL := 3) (ret := (some .int)) (by decide) rfl ?_
  intro p e s m args below meth c s₁ B hml hv
  obtain ⟨rfl, hP, hC⟩ := hv
  have hK := hC.1
  have hx := B.exec
  have hb := B.bytes
  have hr := B.returns
  have hts := atoms_spec (ws := v_X11_ofDevice) B.pre
  have hown : s.vm.findClass RX11 = some m.cls := findClass_of_methodNamed B.named
  have hlocks := B.notSynchronized
  have hS : va_S (fun _ => False) s.heap s.heap [] := va_S.rf
  have hl := lv_entry ([.ref (a 0), .int 0, .int p1]) (n := 3) (Nat.le_of_ble_eq_true rfl)
  rw [lg_entry_eq]
  generalize (lg_sl ([.ref (a 0), .int 0, .int p1]) ++ List.replicate (3 - (lg_sl ([.ref (a 0), .int 0, .int p1])).length) Slot.unset).toArray = ls at hl ⊢
  have hl : lv_has ls 3 [(0, .ref (a 0)), (1, .int 0), (2, .int p1)] := hl
  refine lv_iload_n hx hb dX11_ofDevice_0 rfl (lv_at hl 2 rfl) ?_
  by_cases c1_ : p1 = 30
  · skip
    subst c1_
    refine lv_tableIn (off := 31) (tgt := 32) hx hb dX11_ofDevice_1 (by decide) (by decide) (by decide) (by decide) ?_
    refine lv_aload_n hx hb dX11_ofDevice_32 rfl (lv_at hl 0 rfl) ?_
    refine va_get (D := (dC, dI)) (ci := 11) (v := .ref (a 1)) (C := RX11) (T := TX11) (N := 11) hx hb hts i_X11_ofDevice_X11 hown hK hP 0 rfl rfl 0 (by decide) (hts _ m_X11_ofDevice_0) (fun _ h9 => h9) rfl dX11_ofDevice_33 ?_
    refine va_get (D := (dC, dI)) (ci := 8) (v := .ref (a 6)) (C := RX8) (T := TX8) (N := 17) hx hb hts i_X11_ofDevice_X8 hown hK hP 1 rfl rfl 7 (by decide) (hts _ m_X11_ofDevice_1) (fun _ h9 => h9) rfl dX11_ofDevice_36 ?_
    refine lv_iload_n hx hb dX11_ofDevice_39 rfl (lv_at hl 1 rfl) ?_
    refine va_iald hx hb hK hP 6 0 rfl rfl (show ¬ ((0 : Int32) < 0 ∨ 32 ≤ Int32.toNatClampNeg 0) by decide) dX11_ofDevice_40 ?_
    refine tk_i 0 (by rfl) ?_
    exact W.iret (v := 0) hx hb hr (fun t ht hW => ⟨⟨0, (), rfl, Or.inl (⟨rfl, rfl⟩), trivial⟩, hS.F ht⟩) hS.2.2 dX11_ofDevice_41
  by_cases c2_ : p1 = 31
  · skip
    subst c2_
    refine lv_tableIn (off := 41) (tgt := 42) hx hb dX11_ofDevice_1 (by decide) (by decide) (by decide) (by decide) ?_
    refine lv_aload_n hx hb dX11_ofDevice_42 rfl (lv_at hl 0 rfl) ?_
    refine va_get (D := (dC, dI)) (ci := 11) (v := .ref (a 1)) (C := RX11) (T := TX11) (N := 11) hx hb hts i_X11_ofDevice_X11 hown hK hP 0 rfl rfl 0 (by decide) (hts _ m_X11_ofDevice_0) (fun _ h9 => h9) rfl dX11_ofDevice_43 ?_
    refine va_get (D := (dC, dI)) (ci := 8) (v := .ref (a 7)) (C := RX8) (T := TX8) (N := 17) hx hb hts i_X11_ofDevice_X8 hown hK hP 1 rfl rfl 8 (by decide) (hts _ m_X11_ofDevice_2) (fun _ h9 => h9) rfl dX11_ofDevice_46 ?_
    refine lv_iload_n hx hb dX11_ofDevice_49 rfl (lv_at hl 1 rfl) ?_
    refine va_iald hx hb hK hP 7 0 rfl rfl (show ¬ ((0 : Int32) < 0 ∨ 32 ≤ Int32.toNatClampNeg 0) by decide) dX11_ofDevice_50 ?_
    refine tk_i (-1) (by rfl) ?_
    refine lv_iconst (v := (-1)) hx hb dX11_ofDevice_51 (by decide) ?_
    refine lv_icmp_ne (tgt := 59) hx hb dX11_ofDevice_52 (by decide) (fun c9_ => absurd (by decide) c9_) (fun _ => ?_)
    refine lv_iconst (v := 0) hx hb dX11_ofDevice_55 (by decide) ?_
    refine lv_goto (tgt := 60) hx hb dX11_ofDevice_56 (by decide) ?_
    exact W.iret (v := 0) hx hb hr (fun t ht hW => ⟨⟨0, (), rfl, Or.inr (Or.inl (⟨rfl, rfl⟩)), trivial⟩, hS.F ht⟩) hS.2.2 dX11_ofDevice_60
  by_cases c3_ : p1 = 32
  · skip
    subst c3_
    refine lv_tableIn (off := 60) (tgt := 61) hx hb dX11_ofDevice_1 (by decide) (by decide) (by decide) (by decide) ?_
    refine lv_aload_n hx hb dX11_ofDevice_61 rfl (lv_at hl 0 rfl) ?_
    refine va_get (D := (dC, dI)) (ci := 11) (v := .ref (a 1)) (C := RX11) (T := TX11) (N := 11) hx hb hts i_X11_ofDevice_X11 hown hK hP 0 rfl rfl 0 (by decide) (hts _ m_X11_ofDevice_0) (fun _ h9 => h9) rfl dX11_ofDevice_62 ?_
    refine va_get (D := (dC, dI)) (ci := 8) (v := .ref (a 7)) (C := RX8) (T := TX8) (N := 17) hx hb hts i_X11_ofDevice_X8 hown hK hP 1 rfl rfl 8 (by decide) (hts _ m_X11_ofDevice_2) (fun _ h9 => h9) rfl dX11_ofDevice_65 ?_
    refine lv_iload_n hx hb dX11_ofDevice_68 rfl (lv_at hl 1 rfl) ?_
    refine va_iald hx hb hK hP 7 0 rfl rfl (show ¬ ((0 : Int32) < 0 ∨ 32 ≤ Int32.toNatClampNeg 0) by decide) dX11_ofDevice_69 ?_
    refine tk_i (-1) (by rfl) ?_
    exact W.iret (v := (-1)) hx hb hr (fun t ht hW => ⟨⟨(-1), (), rfl, Or.inr (Or.inr (Or.inl (⟨rfl, rfl⟩))), trivial⟩, hS.F ht⟩) hS.2.2 dX11_ofDevice_70
  by_cases c4_ : p1 = 33
  · skip
    subst c4_
    refine lv_tableIn (off := 70) (tgt := 71) hx hb dX11_ofDevice_1 (by decide) (by decide) (by decide) (by decide) ?_
    refine lv_aload_n hx hb dX11_ofDevice_71 rfl (lv_at hl 0 rfl) ?_
    refine va_get (D := (dC, dI)) (ci := 11) (v := .ref (a 1)) (C := RX11) (T := TX11) (N := 11) hx hb hts i_X11_ofDevice_X11 hown hK hP 0 rfl rfl 0 (by decide) (hts _ m_X11_ofDevice_0) (fun _ h9 => h9) rfl dX11_ofDevice_72 ?_
    refine va_get (D := (dC, dI)) (ci := 8) (v := .ref (a 7)) (C := RX8) (T := TX8) (N := 17) hx hb hts i_X11_ofDevice_X8 hown hK hP 1 rfl rfl 8 (by decide) (hts _ m_X11_ofDevice_2) (fun _ h9 => h9) rfl dX11_ofDevice_75 ?_
    refine lv_iload_n hx hb dX11_ofDevice_78 rfl (lv_at hl 1 rfl) ?_
    refine va_iald hx hb hK hP 7 0 rfl rfl (show ¬ ((0 : Int32) < 0 ∨ 32 ≤ Int32.toNatClampNeg 0) by decide) dX11_ofDevice_79 ?_
    refine tk_i (-1) (by rfl) ?_
    refine lv_iconst (v := (-1)) hx hb dX11_ofDevice_80 (by decide) ?_
    refine lv_icmp_ne (tgt := 88) hx hb dX11_ofDevice_81 (by decide) (fun c9_ => absurd (by decide) c9_) (fun _ => ?_)
    refine lv_iconst (v := (-1)) hx hb dX11_ofDevice_84 (by decide) ?_
    refine lv_goto (tgt := 97) hx hb dX11_ofDevice_85 (by decide) ?_
    exact W.iret (v := (-1)) hx hb hr (fun t ht hW => ⟨⟨(-1), (), rfl, Or.inr (Or.inr (Or.inr (Or.inl (⟨rfl, rfl⟩)))), trivial⟩, hS.F ht⟩) hS.2.2 dX11_ofDevice_97
  have e5_ : p1.toInt < 30 ∨ 33 < p1.toInt := by
    have z0_ := tz_neq_r c1_ (show (30 : Int32).toInt = 30 by decide)
    have z1_ := tz_neq_r c2_ (show (31 : Int32).toInt = 31 by decide)
    have z2_ := tz_neq_r c3_ (show (32 : Int32).toInt = 32 by decide)
    have z3_ := tz_neq_r c4_ (show (33 : Int32).toInt = 33 by decide)
    omega
  refine lv_tableOut (tgt := 98) hx hb dX11_ofDevice_1 e5_ (by decide) ?_
  refine lv_iconst (v := (-1)) hx hb dX11_ofDevice_98 (by decide) ?_
  exact W.iret (v := (-1)) hx hb hr (fun t ht hW => ⟨⟨(-1), (), rfl, Or.inr (Or.inr (Or.inr (Or.inr (⟨c1_, c2_, c3_, c4_, rfl⟩)))), trivial⟩, hS.F ht⟩) hS.2.2 dX11_ofDevice_99

theorem dX11_ofItsKind_0 : decode cX11_ofItsKind 0 = .ok (.aload_n 2, 1) := by decide +kernel
theorem dX11_ofItsKind_1 : decode cX11_ofItsKind 1 = .ok (.getfield 202, 3) := by decide +kernel
theorem dX11_ofItsKind_4 : decode cX11_ofItsKind 4 = .ok (.tableswitch 180 1 7 #[44, 51, 94, 122, 141, 152, 160], 44) := by decide +kernel
theorem dX11_ofItsKind_48 : decode cX11_ofItsKind 48 = .ok (.aload_n 0, 1) := by decide +kernel
theorem dX11_ofItsKind_49 : decode cX11_ofItsKind 49 = .ok (.iload_n 1, 1) := by decide +kernel
theorem dX11_ofItsKind_50 : decode cX11_ofItsKind 50 = .ok (.iload_n 3, 1) := by decide +kernel
theorem dX11_ofItsKind_51 : decode cX11_ofItsKind 51 = .ok (.invokevirtual 315, 3) := by decide +kernel
theorem dX11_ofItsKind_54 : decode cX11_ofItsKind 54 = .ok (.ireturn, 1) := by decide +kernel
def v_X11_ofItsKind : List Cond := .code yX11_ofItsKind cX11_ofItsKind 4 (some .int) :: ([.fieldLink RX11 202 "RestBoard$Node" "kind" "I", .methodLink RX11 315 yX11_ofDevice, .instanceMethod yX11_ofDevice, .selects RX11 yX11_ofDevice yX11_ofDevice, .initialized RX11, .code yX11_ofDevice cX11_ofDevice 3 (some .int), .fieldLink RX11 10 "RestBoard" "now" "LRestBoard$State;", .fieldLink RX11 143 "RestBoard$State" "powers" "[I", .fieldLink RX11 160 "RestBoard$State" "lines" "[I"] ++ wsX40 ++ wsX110 ++ wsX80)
theorem m_X11_ofItsKind_0 : (.fieldLink RX11 202 "RestBoard$Node" "kind" "I" : Cond) ∈ v_X11_ofItsKind := List.mem_of_getElem? (i := 1) (by decide +kernel)
theorem i_X11_ofItsKind_X4 : ∀ w ∈ u_ws RX4 TX4 14, w ∈ v_X11_ofItsKind := fun w h => List.mem_cons_of_mem _ (List.mem_append_left _ (List.mem_append_left _ (List.mem_append_right _ h)))
set_option maxRecDepth 100000 in
theorem gg_X11_ofItsKind_X11_ofDevice_315 : GoodIn v_X11_ofItsKind v_X11_ofDevice := goodIn_r _ [6, 7, 8, 9, 24, 25, 26, 27, 28, 29, 30, 31, 32, 33, 34, 35, 36, 37, 38, 39, 40, 41, 42, 43, 44, 45, 46, 47, 48, 49, 50, 51] (by decide +kernel) (by decide +kernel)
set_option maxRecDepth 100000 in
theorem g_X11_ofItsKind_X11_ofDevice_315 : GoodIn v_X11_ofItsKind (wsV RX11 315 RX11 yX11_ofDevice v_X11_ofDevice) := goodIn_app (goodIn_r _ [2, 3, 4, 5] (by decide +kernel) (by decide +kernel)) gg_X11_ofItsKind_X11_ofDevice_315
set_option maxHeartbeats 4000000 in
set_option maxRecDepth 100000 in
theorem c_X11_ofItsKind (l : Launch) (dC : Nat → ClassId) (dI : Nat → Nat → Nat) (cy : Nat → ClassId) (a : Nat → Nat) (g : Nat → Nat → Option Nat) (p1 : Int32) : Met l yX11_ofItsKind v_X11_ofItsKind ({ frames := 1, cells := 0, slots := 0, locals := 22 }) (va_Pc [.ref (a 0), .int 0, .ref (a 23), .int p1] (pp dC dI cy (fw a cy g))) (va_Qi (fun (r : Int32) (_ : Unit) => ((p1 = 30) ∧ r = 0) ∨ ((p1 = 31) ∧ r = 0) ∨ ((p1 = 32) ∧ r = (-1)) ∨ ((p1 = 33) ∧ r = (-1)) ∨ ((¬ p1 = 30) ∧ (¬ p1 = 31) ∧ (¬ p1 = 32) ∧ (¬ p1 = 33) ∧ r = (-1))) (fun _ _ => True) (fun _ => False)) 0 0 (fun _ => False) := by
  refine Met.ofW (cc := cX11_ofItsKind) (maxL := 4) (ret := (some .int)) (by decide) rfl ?_
  intro p e s m args below meth c s₁ B hml hv
  obtain ⟨rfl, hP, hC⟩ := hv
  have hK := hC.1
  have hx := B.exec
  have hb := B.bytes
  have hr := B.returns
  have hts := atoms_spec (ws := v_X11_ofItsKind) B.pre
  have hown : s.vm.findClass RX11 = some m.cls := findClass_of_methodNamed B.named
  have hlocks := B.notSynchronized
  have hS : va_S (fun _ => False) s.heap s.heap [] := va_S.rf
  have hl := lv_entry ([.ref (a 0), .int 0, .ref (a 23), .int p1]) (n := 4) (Nat.le_of_ble_eq_true rfl)
  rw [lg_entry_eq]
  generalize (lg_sl ([.ref (a 0), .int 0, .ref (a 23), .int p1]) ++ List.replicate (4 - (lg_sl ([.ref (a 0), .int 0, .ref (a 23), .int p1])).length) Slot.unset).toArray = ls at hl ⊢
  have hl : lv_has ls 4 [(0, .ref (a 0)), (1, .int 0), (2, .ref (a 23)), (3, .int p1)] := hl
  refine lv_aload_n hx hb dX11_ofItsKind_0 rfl (lv_at hl 2 rfl) ?_
  refine va_get (D := (dC, dI)) (ci := 4) (v := .int 1) (C := RX4) (T := TX4) (N := 14) hx hb hts i_X11_ofItsKind_X4 hown hK hP 23 rfl rfl 0 (by decide) (hts _ m_X11_ofItsKind_0) (fun _ h9 => h9) rfl dX11_ofItsKind_1 ?_
  refine lv_tableIn (off := 44) (tgt := 48) hx hb dX11_ofItsKind_4 (by decide) (by decide) (by decide) (by decide) ?_
  refine lv_aload_n hx hb dX11_ofItsKind_48 rfl (lv_at hl 0 rfl) ?_
  refine lv_iload_n hx hb dX11_ofItsKind_49 rfl (lv_at hl 1 rfl) ?_
  refine lv_iload_n hx hb dX11_ofItsKind_50 rfl (lv_at hl 3 rfl) ?_
  refine tk_pi (va_runV (As := [.int 0, .int p1]) (rest := []) ⟨hx, hb, hml, hown, hts⟩ (c_X11_ofDevice l dC dI cy a g p1) (cwV 2 hts g_X11_ofItsKind_X11_ofDevice_315 rfl rfl rfl (by decide +kernel) ⟨Nat.le_of_ble_eq_true rfl, Nat.le_of_ble_eq_true rfl⟩) (pv_pp hC hP (ci := 11) (q0 := 0) rfl rfl) rfl rfl hl.1 rfl (lv_room (Nat.le_of_ble_eq_true rfl)) dX11_ofItsKind_51 ⟨Nat.le_of_ble_eq_true rfl, Nat.le_of_ble_eq_true rfl⟩) hP hS (fun r_ H locs hw hP hS => ?_)
  rcases hw with ⟨c1_, rfl⟩ | ⟨c2_, rfl⟩ | ⟨c3_, rfl⟩ | ⟨c4_, rfl⟩ | ⟨c5_, c6_, c7_, c8_, rfl⟩
  · skip
    subst c1_
    exact W.iret (v := 0) hx hb hr (fun t ht hW => ⟨⟨0, (), rfl, Or.inl (⟨rfl, rfl⟩), trivial⟩, hS.F ht⟩) hS.2.2 dX11_ofItsKind_54
  · skip
    subst c2_
    exact W.iret (v := 0) hx hb hr (fun t ht hW => ⟨⟨0, (), rfl, Or.inr (Or.inl (⟨rfl, rfl⟩)), trivial⟩, hS.F ht⟩) hS.2.2 dX11_ofItsKind_54
  · skip
    subst c3_
    exact W.iret (v := (-1)) hx hb hr (fun t ht hW => ⟨⟨(-1), (), rfl, Or.inr (Or.inr (Or.inl (⟨rfl, rfl⟩))), trivial⟩, hS.F ht⟩) hS.2.2 dX11_ofItsKind_54
  · skip
    subst c4_
    exact W.iret (v := (-1)) hx hb hr (fun t ht hW => ⟨⟨(-1), (), rfl, Or.inr (Or.inr (Or.inr (Or.inl (⟨rfl, rfl⟩)))), trivial⟩, hS.F ht⟩) hS.2.2 dX11_ofItsKind_54
  · skip
    exact W.iret (v := (-1)) hx hb hr (fun t ht hW => ⟨⟨(-1), (), rfl, Or.inr (Or.inr (Or.inr (Or.inr (⟨c5_, c6_, c7_, c8_, rfl⟩)))), trivial⟩, hS.F ht⟩) hS.2.2 dX11_ofItsKind_54

theorem dX11_fault_0 : decode cX11_fault 0 = .ok (.aload_n 0, 1) := by decide +kernel
theorem dX11_fault_1 : decode cX11_fault 1 = .ok (.getfield 73, 3) := by decide +kernel
theorem dX11_fault_4 : decode cX11_fault 4 = .ok (.ireturn, 1) := by decide +kernel
def v_X11_fault : List Cond := .code yX11_fault cX11_fault 1 (some .int) :: ([.fieldLink RX11 73 "RestBoard" "latestFault" "I"] ++ wsX110)
theorem m_X11_fault_0 : (.fieldLink RX11 73 "RestBoard" "latestFault" "I" : Cond) ∈ v_X11_fault := List.mem_of_getElem? (i := 1) (by decide +kernel)
theorem i_X11_fault_X11 : ∀ w ∈ u_ws RX11 TX11 11, w ∈ v_X11_fault := fun w h => List.mem_cons_of_mem _ (List.mem_append_right _ h)
set_option maxHeartbeats 4000000 in
set_option maxRecDepth 100000 in
theorem c_X11_fault (l : Launch) (dC : Nat → ClassId) (dI : Nat → Nat → Nat) (cy : Nat → ClassId) (a : Nat → Nat) (g : Nat → Nat → Option Nat) : Met l yX11_fault v_X11_fault ({ frames := 0, cells := 0, slots := 0, locals := 0 }) (va_Pc [.ref (a 0)] (pp dC dI cy (fw a cy g))) (va_Qi (fun (r : Int32) (_ : Unit) => r = (-1)) (fun _ _ => True) (fun _ => False)) 0 0 (fun _ => False) := by
  refine Met.ofW (cc := cX11_fault) (maxL := 1) (ret := (some .int)) (by decide) rfl ?_
  intro p e s m args below meth c s₁ B hml hv
  obtain ⟨rfl, hP, hC⟩ := hv
  have hK := hC.1
  have hx := B.exec
  have hb := B.bytes
  have hr := B.returns
  have hts := atoms_spec (ws := v_X11_fault) B.pre
  have hown : s.vm.findClass RX11 = some m.cls := findClass_of_methodNamed B.named
  have hlocks := B.notSynchronized
  have hS : va_S (fun _ => False) s.heap s.heap [] := va_S.rf
  have hl := lv_entry ([.ref (a 0)]) (n := 1) (Nat.le_of_ble_eq_true rfl)
  rw [lg_entry_eq]
  generalize (lg_sl ([.ref (a 0)]) ++ List.replicate (1 - (lg_sl ([.ref (a 0)])).length) Slot.unset).toArray = ls at hl ⊢
  have hl : lv_has ls 1 [(0, .ref (a 0))] := hl
  refine lv_aload_n hx hb dX11_fault_0 rfl (lv_at hl 0 rfl) ?_
  refine va_get (D := (dC, dI)) (ci := 11) (v := .int (-1)) (C := RX11) (T := TX11) (N := 11) hx hb hts i_X11_fault_X11 hown hK hP 0 rfl rfl 10 (by decide) (hts _ m_X11_fault_0) (fun _ h9 => h9) rfl dX11_fault_1 ?_
  exact W.iret (v := (-1)) hx hb hr (fun t ht hW => ⟨⟨(-1), (), rfl, rfl, trivial⟩, hS.F ht⟩) hS.2.2 dX11_fault_4

theorem dX11_status_0 : decode cX11_status 0 = .ok (.aload_n 0, 1) := by decide +kernel
theorem dX11_status_1 : decode cX11_status 1 = .ok (.getfield 293, 3) := by decide +kernel
theorem dX11_status_4 : decode cX11_status 4 = .ok (.ireturn, 1) := by decide +kernel
def v_X11_status : List Cond := .code yX11_status cX11_status 1 (some .int) :: ([.fieldLink RX11 293 "RestBoard" "refusedBy" "I"] ++ wsX110)
theorem m_X11_status_0 : (.fieldLink RX11 293 "RestBoard" "refusedBy" "I" : Cond) ∈ v_X11_status := List.mem_of_getElem? (i := 1) (by decide +kernel)
theorem i_X11_status_X11 : ∀ w ∈ u_ws RX11 TX11 11, w ∈ v_X11_status := fun w h => List.mem_cons_of_mem _ (List.mem_append_right _ h)
set_option maxHeartbeats 4000000 in
set_option maxRecDepth 100000 in
theorem c_X11_status (l : Launch) (dC : Nat → ClassId) (dI : Nat → Nat → Nat) (cy : Nat → ClassId) (a : Nat → Nat) (g : Nat → Nat → Option Nat) : Met l yX11_status v_X11_status ({ frames := 0, cells := 0, slots := 0, locals := 0 }) (va_Pc [.ref (a 0)] (pp dC dI cy (fw a cy g))) (va_Qi (fun (r : Int32) (_ : Unit) => r = 0) (fun _ _ => True) (fun _ => False)) 0 0 (fun _ => False) := by
  refine Met.ofW (cc := cX11_status) (maxL := 1) (ret := (some .int)) (by decide) rfl ?_
  intro p e s m args below meth c s₁ B hml hv
  obtain ⟨rfl, hP, hC⟩ := hv
  have hK := hC.1
  have hx := B.exec
  have hb := B.bytes
  have hr := B.returns
  have hts := atoms_spec (ws := v_X11_status) B.pre
  have hown : s.vm.findClass RX11 = some m.cls := findClass_of_methodNamed B.named
  have hlocks := B.notSynchronized
  have hS : va_S (fun _ => False) s.heap s.heap [] := va_S.rf
  have hl := lv_entry ([.ref (a 0)]) (n := 1) (Nat.le_of_ble_eq_true rfl)
  rw [lg_entry_eq]
  generalize (lg_sl ([.ref (a 0)]) ++ List.replicate (1 - (lg_sl ([.ref (a 0)])).length) Slot.unset).toArray = ls at hl ⊢
  have hl : lv_has ls 1 [(0, .ref (a 0))] := hl
  refine lv_aload_n hx hb dX11_status_0 rfl (lv_at hl 0 rfl) ?_
  refine va_get (D := (dC, dI)) (ci := 11) (v := .int 0) (C := RX11) (T := TX11) (N := 11) hx hb hts i_X11_status_X11 hown hK hP 0 rfl rfl 9 (by decide) (hts _ m_X11_status_0) (fun _ h9 => h9) rfl dX11_status_1 ?_
  exact W.iret (v := 0) hx hb hr (fun t ht hW => ⟨⟨0, (), rfl, rfl, trivial⟩, hS.F ht⟩) hS.2.2 dX11_status_4

theorem dX11_node_0 : decode cX11_node 0 = .ok (.aload_n 0, 1) := by decide +kernel
theorem dX11_node_1 : decode cX11_node 1 = .ok (.getfield 24, 3) := by decide +kernel
theorem dX11_node_4 : decode cX11_node 4 = .ok (.iload_n 1, 1) := by decide +kernel
theorem dX11_node_5 : decode cX11_node 5 = .ok (.invokevirtual 195, 3) := by decide +kernel
theorem dX11_node_8 : decode cX11_node 8 = .ok (.ifCond .ne 5, 3) := by decide +kernel
theorem dX11_node_11 : decode cX11_node 11 = .ok (.iconst (-1), 1) := by decide +kernel
theorem dX11_node_12 : decode cX11_node 12 = .ok (.ireturn, 1) := by decide +kernel
theorem dX11_node_13 : decode cX11_node 13 = .ok (.aload_n 0, 1) := by decide +kernel
theorem dX11_node_14 : decode cX11_node 14 = .ok (.getfield 24, 3) := by decide +kernel
theorem dX11_node_17 : decode cX11_node 17 = .ok (.getfield 198, 3) := by decide +kernel
theorem dX11_node_20 : decode cX11_node 20 = .ok (.iload_n 1, 1) := by decide +kernel
theorem dX11_node_21 : decode cX11_node 21 = .ok (.aaload, 1) := by decide +kernel
theorem dX11_node_22 : decode cX11_node 22 = .ok (.astore_n 3, 1) := by decide +kernel
theorem dX11_node_23 : decode cX11_node 23 = .ok (.iload_n 2, 1) := by decide +kernel
theorem dX11_node_24 : decode cX11_node 24 = .ok (.tableswitch 43 0 2 #[28, 33, 38], 28) := by decide +kernel
theorem dX11_node_52 : decode cX11_node 52 = .ok (.aload_n 3, 1) := by decide +kernel
theorem dX11_node_53 : decode cX11_node 53 = .ok (.getfield 202, 3) := by decide +kernel
theorem dX11_node_56 : decode cX11_node 56 = .ok (.ireturn, 1) := by decide +kernel
theorem dX11_node_57 : decode cX11_node 57 = .ok (.aload_n 3, 1) := by decide +kernel
theorem dX11_node_58 : decode cX11_node 58 = .ok (.getfield 207, 3) := by decide +kernel
theorem dX11_node_61 : decode cX11_node 61 = .ok (.ireturn, 1) := by decide +kernel
theorem dX11_node_62 : decode cX11_node 62 = .ok (.aload_n 3, 1) := by decide +kernel
theorem dX11_node_63 : decode cX11_node 63 = .ok (.getfield 210, 3) := by decide +kernel
theorem dX11_node_66 : decode cX11_node 66 = .ok (.ireturn, 1) := by decide +kernel
theorem dX11_node_67 : decode cX11_node 67 = .ok (.aload_n 0, 1) := by decide +kernel
theorem dX11_node_68 : decode cX11_node 68 = .ok (.iload_n 1, 1) := by decide +kernel
theorem dX11_node_69 : decode cX11_node 69 = .ok (.aload_n 3, 1) := by decide +kernel
theorem dX11_node_70 : decode cX11_node 70 = .ok (.iload_n 2, 1) := by decide +kernel
theorem dX11_node_71 : decode cX11_node 71 = .ok (.invokevirtual 213, 3) := by decide +kernel
theorem dX11_node_74 : decode cX11_node 74 = .ok (.ireturn, 1) := by decide +kernel
def v_X11_node : List Cond := .code yX11_node cX11_node 4 (some .int) :: ([.fieldLink RX11 24 "RestBoard" "tree" "LRestBoard$Tree;", .fieldLink RX11 198 "RestBoard$Tree" "nodes" "[LRestBoard$Node;", .fieldLink RX11 202 "RestBoard$Node" "kind" "I", .fieldLink RX11 207 "RestBoard$Node" "name" "I", .fieldLink RX11 210 "RestBoard$Node" "parent" "I", .methodLink RX11 195 yX10_has, .instanceMethod yX10_has, .selects RX10 yX10_has yX10_has, .initialized RX10, .code yX10_has cX10_has 2 (some .boolean), .fieldLink RX10 17 "RestBoard$Tree" "now" "LRestBoard$State;", .fieldLink RX10 26 "RestBoard$State" "size" "I", .methodLink RX11 213 yX11_ofItsKind, .instanceMethod yX11_ofItsKind, .selects RX11 yX11_ofItsKind yX11_ofItsKind, .initialized RX11, .code yX11_ofItsKind cX11_ofItsKind 4 (some .int), .methodLink RX11 315 yX11_ofDevice, .instanceMethod yX11_ofDevice, .selects RX11 yX11_ofDevice yX11_ofDevice, .code yX11_ofDevice cX11_ofDevice 3 (some .int), .fieldLink RX11 10 "RestBoard" "now" "LRestBoard$State;", .fieldLink RX11 143 "RestBoard$State" "powers" "[I", .fieldLink RX11 160 "RestBoard$State" "lines" "[I"] ++ wsX110 ++ wsX100 ++ wsX40 ++ wsX80)
theorem m_X11_node_0 : (.fieldLink RX11 24 "RestBoard" "tree" "LRestBoard$Tree;" : Cond) ∈ v_X11_node := List.mem_of_getElem? (i := 1) (by decide +kernel)
theorem m_X11_node_1 : (.fieldLink RX11 198 "RestBoard$Tree" "nodes" "[LRestBoard$Node;" : Cond) ∈ v_X11_node := List.mem_of_getElem? (i := 2) (by decide +kernel)
theorem m_X11_node_2 : (.fieldLink RX11 202 "RestBoard$Node" "kind" "I" : Cond) ∈ v_X11_node := List.mem_of_getElem? (i := 3) (by decide +kernel)
theorem m_X11_node_3 : (.fieldLink RX11 207 "RestBoard$Node" "name" "I" : Cond) ∈ v_X11_node := List.mem_of_getElem? (i := 4) (by decide +kernel)
theorem m_X11_node_4 : (.fieldLink RX11 210 "RestBoard$Node" "parent" "I" : Cond) ∈ v_X11_node := List.mem_of_getElem? (i := 5) (by decide +kernel)
theorem i_X11_node_X11 : ∀ w ∈ u_ws RX11 TX11 11, w ∈ v_X11_node := fun w h => List.mem_cons_of_mem _ (List.mem_append_left _ (List.mem_append_left _ (List.mem_append_left _ (List.mem_append_right _ h))))
theorem i_X11_node_X10 : ∀ w ∈ u_ws RX10 TX10 2, w ∈ v_X11_node := fun w h => List.mem_cons_of_mem _ (List.mem_append_left _ (List.mem_append_left _ (List.mem_append_right _ h)))
theorem i_X11_node_X4 : ∀ w ∈ u_ws RX4 TX4 14, w ∈ v_X11_node := fun w h => List.mem_cons_of_mem _ (List.mem_append_left _ (List.mem_append_right _ h))
set_option maxRecDepth 100000 in
theorem gg_X11_node_X10_has_195 : GoodIn v_X11_node v_X10_has := goodIn_r _ [10, 11, 12, 36, 37, 52, 53, 54, 55, 56, 57, 58, 59, 60, 61, 62, 63, 64, 65, 66, 67, 68] (by decide +kernel) (by decide +kernel)
set_option maxRecDepth 100000 in
theorem g_X11_node_X10_has_195 : GoodIn v_X11_node (wsV RX11 195 RX10 yX10_has v_X10_has) := goodIn_app (goodIn_r _ [6, 7, 8, 9] (by decide +kernel) (by decide +kernel)) gg_X11_node_X10_has_195
set_option maxRecDepth 100000 in
theorem gg_X11_node_X11_ofItsKind_213 : GoodIn v_X11_node v_X11_ofItsKind := goodIn_r _ [17, 3, 18, 19, 20, 16, 21, 22, 23, 24, 38, 39, 40, 41, 42, 43, 44, 45, 46, 47, 48, 49, 50, 51, 25, 26, 27, 28, 29, 30, 31, 32, 33, 34, 35, 52, 53, 54, 55, 56, 57, 58, 59, 60, 61, 62, 63, 64, 65, 66, 67, 68] (by decide +kernel) (by decide +kernel)
set_option maxRecDepth 100000 in
theorem g_X11_node_X11_ofItsKind_213 : GoodIn v_X11_node (wsV RX11 213 RX11 yX11_ofItsKind v_X11_ofItsKind) := goodIn_app (goodIn_r _ [13, 14, 15, 16] (by decide +kernel) (by decide +kernel)) gg_X11_node_X11_ofItsKind_213
set_option maxHeartbeats 4000000 in
set_option maxRecDepth 100000 in
theorem c_X11_node (l : Launch) (dC : Nat → ClassId) (dI : Nat → Nat → Nat) (cy : Nat → ClassId) (a : Nat → Nat) (g : Nat → Nat → Option Nat) (p0 p1 : Int32) : Met l yX11_node v_X11_node ({ frames := 2, cells := 0, slots := 0, locals := 45 }) (va_Pc [.ref (a 0), .int p0, .int p1] (pp dC dI cy (fw a cy g))) (va_Qi (fun (r : Int32) (_ : Unit) => ((p0 < 0) ∧ r = (-1)) ∨ ((¬ p0 < 0) ∧ ((1 : Int32) ≤ p0) ∧ r = (-1)) ∨ ((p0 = 0) ∧ (p1 = 0) ∧ r = 1) ∨ ((p0 = 0) ∧ (p1 = 1) ∧ r = 0) ∨ ((p0 = 0) ∧ (p1 = 2) ∧ r = (-1)) ∨ ((p0 = 0) ∧ (p1 = 30) ∧ r = 0) ∨ ((p0 = 0) ∧ (p1 = 31) ∧ r = 0) ∨ ((p0 = 0) ∧ (p1 = 32) ∧ r = (-1)) ∨ ((p0 = 0) ∧ (p1 = 33) ∧ r = (-1)) ∨ ((p0 = 0) ∧ (¬ p1 = 0) ∧ (¬ p1 = 1) ∧ (¬ p1 = 2) ∧ (¬ p1 = 30) ∧ (¬ p1 = 31) ∧ (¬ p1 = 32) ∧ (¬ p1 = 33) ∧ r = (-1))) (fun _ _ => True) (fun _ => False)) 0 0 (fun _ => False) := by
  refine Met.ofW (cc := cX11_node) (maxL := 4) (ret := (some .int)) (by decide) rfl ?_
  intro p e s m args below meth c s₁ B hml hv
  obtain ⟨rfl, hP, hC⟩ := hv
  have hK := hC.1
  have hx := B.exec
  have hb := B.bytes
  have hr := B.returns
  have hts := atoms_spec (ws := v_X11_node) B.pre
  have hown : s.vm.findClass RX11 = some m.cls := findClass_of_methodNamed B.named
  have hlocks := B.notSynchronized
  have hS : va_S (fun _ => False) s.heap s.heap [] := va_S.rf
  have hl := lv_entry ([.ref (a 0), .int p0, .int p1]) (n := 4) (Nat.le_of_ble_eq_true rfl)
  rw [lg_entry_eq]
  generalize (lg_sl ([.ref (a 0), .int p0, .int p1]) ++ List.replicate (4 - (lg_sl ([.ref (a 0), .int p0, .int p1])).length) Slot.unset).toArray = ls at hl ⊢
  have hl : lv_has ls 4 [(0, .ref (a 0)), (1, .int p0), (2, .int p1)] := hl
  refine lv_aload_n hx hb dX11_node_0 rfl (lv_at hl 0 rfl) ?_
  refine va_get (D := (dC, dI)) (ci := 11) (v := .ref (a 21)) (C := RX11) (T := TX11) (N := 11) hx hb hts i_X11_node_X11 hown hK hP 0 rfl rfl 2 (by decide) (hts _ m_X11_node_0) (fun _ h9 => h9) rfl dX11_node_1 ?_
  refine lv_iload_n hx hb dX11_node_4 rfl (lv_at hl 1 rfl) ?_
  refine tk_pi (va_runV (As := [.int p0]) (rest := []) ⟨hx, hb, hml, hown, hts⟩ (c_X10_has l dC dI cy a g p0) (cwV 1 hts g_X11_node_X10_has_195 rfl rfl rfl (by decide +kernel) ⟨Nat.le_of_ble_eq_true rfl, Nat.le_of_ble_eq_true rfl⟩) (pv_pp hC hP (ci := 10) (q0 := 21) rfl rfl) rfl rfl hl.1 rfl (lv_room (Nat.le_of_ble_eq_true rfl)) dX11_node_5 ⟨Nat.le_of_ble_eq_true rfl, Nat.le_of_ble_eq_true rfl⟩) hP hS (fun r_ H locs hw hP hS => ?_)
  rcases hw with ⟨c1_, rfl⟩ | ⟨c2_, c3_, rfl⟩ | ⟨c4_, rfl⟩
  · skip
    refine lv_if_ne (tgt := 13) hx hb dX11_node_8 (by decide) (fun c9_ => absurd (by decide) c9_) (fun _ => ?_)
    refine lv_iconst (v := (-1)) hx hb dX11_node_11 (by decide) ?_
    exact W.iret (v := (-1)) hx hb hr (fun t ht hW => ⟨⟨(-1), (), rfl, Or.inl (⟨c1_, rfl⟩), trivial⟩, hS.F ht⟩) hS.2.2 dX11_node_12
  · skip
    refine lv_if_ne (tgt := 13) hx hb dX11_node_8 (by decide) (fun c9_ => absurd (by decide) c9_) (fun _ => ?_)
    refine lv_iconst (v := (-1)) hx hb dX11_node_11 (by decide) ?_
    exact W.iret (v := (-1)) hx hb hr (fun t ht hW => ⟨⟨(-1), (), rfl, Or.inr (Or.inl (⟨c2_, c3_, rfl⟩)), trivial⟩, hS.F ht⟩) hS.2.2 dX11_node_12
  · skip
    subst c4_
    refine lv_if_ne (tgt := 13) hx hb dX11_node_8 (by decide) (fun _ => ?_) (fun c9_ => absurd c9_ (by decide))
    refine lv_aload_n hx hb dX11_node_13 rfl (lv_at hl 0 rfl) ?_
    refine va_get (D := (dC, dI)) (ci := 11) (v := .ref (a 21)) (C := RX11) (T := TX11) (N := 11) hx hb hts i_X11_node_X11 hown hK hP 0 rfl rfl 2 (by decide) (hts _ m_X11_node_0) (fun _ h9 => h9) rfl dX11_node_14 ?_
    refine va_get (D := (dC, dI)) (ci := 10) (v := .ref (a 22)) (C := RX10) (T := TX10) (N := 2) hx hb hts i_X11_node_X10 hown hK hP 21 rfl rfl 0 (by decide) (hts _ m_X11_node_1) (fun _ h9 => h9) rfl dX11_node_17 ?_
    refine lv_iload_n hx hb dX11_node_20 rfl (lv_at hl 1 rfl) ?_
    refine va_aldq hx hb hK hP 22 1 rfl rfl (show ¬ ((0 : Int32) < 0 ∨ 32 ≤ Int32.toNatClampNeg 0) by decide) dX11_node_21 ?_
    refine tk_v (.ref (a 23)) (by rfl) ?_
    refine lv_astore_n (lv' := [(3, .ref (a 23)), (0, .ref (a 0)), (1, .int 0), (2, .int p1)]) hx hb dX11_node_22 rfl hl (by decide) rfl (fun ls hl => ?_)
    refine lv_iload_n hx hb dX11_node_23 rfl (lv_at hl 3 rfl) ?_
    by_cases c5_ : p1 = 0
    · skip
      subst c5_
      refine lv_tableIn (off := 28) (tgt := 52) hx hb dX11_node_24 (by decide) (by decide) (by decide) (by decide) ?_
      refine lv_aload_n hx hb dX11_node_52 rfl (lv_at hl 0 rfl) ?_
      refine va_get (D := (dC, dI)) (ci := 4) (v := .int 1) (C := RX4) (T := TX4) (N := 14) hx hb hts i_X11_node_X4 hown hK hP 23 rfl rfl 0 (by decide) (hts _ m_X11_node_2) (fun _ h9 => h9) rfl dX11_node_53 ?_
      exact W.iret (v := 1) hx hb hr (fun t ht hW => ⟨⟨1, (), rfl, Or.inr (Or.inr (Or.inl (⟨rfl, rfl, rfl⟩))), trivial⟩, hS.F ht⟩) hS.2.2 dX11_node_56
    by_cases c6_ : p1 = 1
    · skip
      subst c6_
      refine lv_tableIn (off := 33) (tgt := 57) hx hb dX11_node_24 (by decide) (by decide) (by decide) (by decide) ?_
      refine lv_aload_n hx hb dX11_node_57 rfl (lv_at hl 0 rfl) ?_
      refine va_get (D := (dC, dI)) (ci := 4) (v := .int 0) (C := RX4) (T := TX4) (N := 14) hx hb hts i_X11_node_X4 hown hK hP 23 rfl rfl 1 (by decide) (hts _ m_X11_node_3) (fun _ h9 => h9) rfl dX11_node_58 ?_
      exact W.iret (v := 0) hx hb hr (fun t ht hW => ⟨⟨0, (), rfl, Or.inr (Or.inr (Or.inr (Or.inl (⟨rfl, rfl, rfl⟩)))), trivial⟩, hS.F ht⟩) hS.2.2 dX11_node_61
    by_cases c7_ : p1 = 2
    · skip
      subst c7_
      refine lv_tableIn (off := 38) (tgt := 62) hx hb dX11_node_24 (by decide) (by decide) (by decide) (by decide) ?_
      refine lv_aload_n hx hb dX11_node_62 rfl (lv_at hl 0 rfl) ?_
      refine va_get (D := (dC, dI)) (ci := 4) (v := .int (-1)) (C := RX4) (T := TX4) (N := 14) hx hb hts i_X11_node_X4 hown hK hP 23 rfl rfl 2 (by decide) (hts _ m_X11_node_4) (fun _ h9 => h9) rfl dX11_node_63 ?_
      exact W.iret (v := (-1)) hx hb hr (fun t ht hW => ⟨⟨(-1), (), rfl, Or.inr (Or.inr (Or.inr (Or.inr (Or.inl (⟨rfl, rfl, rfl⟩))))), trivial⟩, hS.F ht⟩) hS.2.2 dX11_node_66
    have e8_ : p1.toInt < 0 ∨ 2 < p1.toInt := by
      have z0_ := tz_neq_r c5_ (show (0 : Int32).toInt = 0 by decide)
      have z1_ := tz_neq_r c6_ (show (1 : Int32).toInt = 1 by decide)
      have z2_ := tz_neq_r c7_ (show (2 : Int32).toInt = 2 by decide)
      omega
    refine lv_tableOut (tgt := 67) hx hb dX11_node_24 e8_ (by decide) ?_
    refine lv_aload_n hx hb dX11_node_67 rfl (lv_at hl 1 rfl) ?_
    refine lv_iload_n hx hb dX11_node_68 rfl (lv_at hl 2 rfl) ?_
    refine lv_aload_n hx hb dX11_node_69 rfl (lv_at hl 0 rfl) ?_
    refine lv_iload_n hx hb dX11_node_70 rfl (lv_at hl 3 rfl) ?_
    refine tk_pi (va_runV (As := [.int 0, .ref (a 23), .int p1]) (rest := []) ⟨hx, hb, hml, hown, hts⟩ (c_X11_ofItsKind l dC dI cy a g p1) (cwV 3 hts g_X11_node_X11_ofItsKind_213 rfl rfl rfl (by decide +kernel) ⟨Nat.le_of_ble_eq_true rfl, Nat.le_of_ble_eq_true rfl⟩) (pv_pp hC hP (ci := 11) (q0 := 0) rfl rfl) rfl rfl hl.1 rfl (lv_room (Nat.le_of_ble_eq_true rfl)) dX11_node_71 ⟨Nat.le_of_ble_eq_true rfl, Nat.le_of_ble_eq_true rfl⟩) hP hS (fun r_ H locs hw hP hS => ?_)
    rcases hw with ⟨c9_, rfl⟩ | ⟨c10_, rfl⟩ | ⟨c11_, rfl⟩ | ⟨c12_, rfl⟩ | ⟨c13_, c14_, c15_, c16_, rfl⟩
    · skip
      subst c9_
      exact W.iret (v := 0) hx hb hr (fun t ht hW => ⟨⟨0, (), rfl, Or.inr (Or.inr (Or.inr (Or.inr (Or.inr (Or.inl (⟨rfl, rfl, rfl⟩)))))), trivial⟩, hS.F ht⟩) hS.2.2 dX11_node_74
    · skip
      subst c10_
      exact W.iret (v := 0) hx hb hr (fun t ht hW => ⟨⟨0, (), rfl, Or.inr (Or.inr (Or.inr (Or.inr (Or.inr (Or.inr (Or.inl (⟨rfl, rfl, rfl⟩))))))), trivial⟩, hS.F ht⟩) hS.2.2 dX11_node_74
    · skip
      subst c11_
      exact W.iret (v := (-1)) hx hb hr (fun t ht hW => ⟨⟨(-1), (), rfl, Or.inr (Or.inr (Or.inr (Or.inr (Or.inr (Or.inr (Or.inr (Or.inl (⟨rfl, rfl, rfl⟩)))))))), trivial⟩, hS.F ht⟩) hS.2.2 dX11_node_74
    · skip
      subst c12_
      exact W.iret (v := (-1)) hx hb hr (fun t ht hW => ⟨⟨(-1), (), rfl, Or.inr (Or.inr (Or.inr (Or.inr (Or.inr (Or.inr (Or.inr (Or.inr (Or.inl (⟨rfl, rfl, rfl⟩))))))))), trivial⟩, hS.F ht⟩) hS.2.2 dX11_node_74
    · skip
      exact W.iret (v := (-1)) hx hb hr (fun t ht hW => ⟨⟨(-1), (), rfl, Or.inr (Or.inr (Or.inr (Or.inr (Or.inr (Or.inr (Or.inr (Or.inr (Or.inr (⟨rfl, c5_, c6_, c7_, c13_, c14_, c15_, c16_, rfl⟩))))))))), trivial⟩, hS.F ht⟩) hS.2.2 dX11_node_74

theorem dX11_code_0 : decode cX11_code 0 = .ok (.aload_n 0, 1) := by decide +kernel
theorem dX11_code_1 : decode cX11_code 1 = .ok (.getfield 24, 3) := by decide +kernel
theorem dX11_code_4 : decode cX11_code 4 = .ok (.iload_n 1, 1) := by decide +kernel
theorem dX11_code_5 : decode cX11_code 5 = .ok (.iconst 3, 1) := by decide +kernel
theorem dX11_code_6 : decode cX11_code 6 = .ok (.invokevirtual 85, 3) := by decide +kernel
theorem dX11_code_9 : decode cX11_code 9 = .ok (.ifCond .ne 5, 3) := by decide +kernel
theorem dX11_code_12 : decode cX11_code 12 = .ok (.iconst (-1), 1) := by decide +kernel
theorem dX11_code_13 : decode cX11_code 13 = .ok (.ireturn, 1) := by decide +kernel
def v_X11_code : List Cond := .code yX11_code cX11_code 4 (some .int) :: ([.fieldLink RX11 24 "RestBoard" "tree" "LRestBoard$Tree;", .methodLink RX11 85 yX10_is, .instanceMethod yX10_is, .selects RX10 yX10_is yX10_is, .initialized RX10, .code yX10_is cX10_is 3 (some .boolean), .fieldLink RX10 11 "RestBoard$Tree" "nodes" "[LRestBoard$Node;", .fieldLink RX10 36 "RestBoard$Node" "kind" "I", .methodLink RX10 32 yX10_has, .instanceMethod yX10_has, .selects RX10 yX10_has yX10_has, .code yX10_has cX10_has 2 (some .boolean), .fieldLink RX10 17 "RestBoard$Tree" "now" "LRestBoard$State;", .fieldLink RX10 26 "RestBoard$State" "size" "I"] ++ wsX110 ++ wsX100 ++ wsX40 ++ wsX80)
theorem m_X11_code_0 : (.fieldLink RX11 24 "RestBoard" "tree" "LRestBoard$Tree;" : Cond) ∈ v_X11_code := List.mem_of_getElem? (i := 1) (by decide +kernel)
theorem i_X11_code_X11 : ∀ w ∈ u_ws RX11 TX11 11, w ∈ v_X11_code := fun w h => List.mem_cons_of_mem _ (List.mem_append_left _ (List.mem_append_left _ (List.mem_append_left _ (List.mem_append_right _ h))))
set_option maxRecDepth 100000 in
theorem gg_X11_code_X10_is_85 : GoodIn v_X11_code v_X10_is := goodIn_r _ [6, 7, 8, 9, 10, 11, 5, 12, 13, 14, 26, 27, 28, 29, 30, 31, 32, 33, 34, 35, 36, 37, 38, 39, 40, 41, 42, 43, 44, 45, 46, 47, 48, 49, 50, 51, 52, 53, 54, 55, 56, 57, 58] (by decide +kernel) (by decide +kernel)
set_option maxRecDepth 100000 in
theorem g_X11_code_X10_is_85 : GoodIn v_X11_code (wsV RX11 85 RX10 yX10_is v_X10_is) := goodIn_app (goodIn_r _ [2, 3, 4, 5] (by decide +kernel) (by decide +kernel)) gg_X11_code_X10_is_85
set_option maxHeartbeats 4000000 in
set_option maxRecDepth 100000 in
theorem c_X11_code (l : Launch) (dC : Nat → ClassId) (dI : Nat → Nat → Nat) (cy : Nat → ClassId) (a : Nat → Nat) (g : Nat → Nat → Option Nat) (p0 p1 : Int32) : Met l yX11_code v_X11_code ({ frames := 2, cells := 0, slots := 0, locals := 43 }) (va_Pc [.ref (a 0), .int p0, .int p1] (pp dC dI cy (fw a cy g))) (va_Qi (fun (r : Int32) (_ : Unit) => ((p0 < 0) ∧ r = (-1)) ∨ ((¬ p0 < 0) ∧ ((1 : Int32) ≤ p0) ∧ r = (-1)) ∨ ((p0 = 0) ∧ r = (-1))) (fun _ _ => True) (fun _ => False)) 0 0 (fun _ => False) := by
  refine Met.ofW (cc := cX11_code) (maxL := 4) (ret := (some .int)) (by decide) rfl ?_
  intro p e s m args below meth c s₁ B hml hv
  obtain ⟨rfl, hP, hC⟩ := hv
  have hK := hC.1
  have hx := B.exec
  have hb := B.bytes
  have hr := B.returns
  have hts := atoms_spec (ws := v_X11_code) B.pre
  have hown : s.vm.findClass RX11 = some m.cls := findClass_of_methodNamed B.named
  have hlocks := B.notSynchronized
  have hS : va_S (fun _ => False) s.heap s.heap [] := va_S.rf
  have hl := lv_entry ([.ref (a 0), .int p0, .int p1]) (n := 4) (Nat.le_of_ble_eq_true rfl)
  rw [lg_entry_eq]
  generalize (lg_sl ([.ref (a 0), .int p0, .int p1]) ++ List.replicate (4 - (lg_sl ([.ref (a 0), .int p0, .int p1])).length) Slot.unset).toArray = ls at hl ⊢
  have hl : lv_has ls 4 [(0, .ref (a 0)), (1, .int p0), (2, .int p1)] := hl
  refine lv_aload_n hx hb dX11_code_0 rfl (lv_at hl 0 rfl) ?_
  refine va_get (D := (dC, dI)) (ci := 11) (v := .ref (a 21)) (C := RX11) (T := TX11) (N := 11) hx hb hts i_X11_code_X11 hown hK hP 0 rfl rfl 2 (by decide) (hts _ m_X11_code_0) (fun _ h9 => h9) rfl dX11_code_1 ?_
  refine lv_iload_n hx hb dX11_code_4 rfl (lv_at hl 1 rfl) ?_
  refine lv_iconst (v := 3) hx hb dX11_code_5 (by decide) ?_
  refine tk_pi (va_runV (As := [.int p0, .int 3]) (rest := []) ⟨hx, hb, hml, hown, hts⟩ (c_X10_is l dC dI cy a g p0 3) (cwV 2 hts g_X11_code_X10_is_85 rfl rfl rfl (by decide +kernel) ⟨Nat.le_of_ble_eq_true rfl, Nat.le_of_ble_eq_true rfl⟩) (pv_pp hC hP (ci := 10) (q0 := 21) rfl rfl) rfl rfl hl.1 rfl (lv_room (Nat.le_of_ble_eq_true rfl)) dX11_code_6 ⟨Nat.le_of_ble_eq_true rfl, Nat.le_of_ble_eq_true rfl⟩) hP hS (fun r_ H locs hw hP hS => ?_)
  rcases hw with ⟨c1_, rfl⟩ | ⟨c2_, c3_, rfl⟩ | ⟨c4_, -, rfl⟩ | ⟨c6_, c7_, rfl⟩
  · skip
    refine lv_if_ne (tgt := 14) hx hb dX11_code_9 (by decide) (fun c9_ => absurd (by decide) c9_) (fun _ => ?_)
    refine lv_iconst (v := (-1)) hx hb dX11_code_12 (by decide) ?_
    exact W.iret (v := (-1)) hx hb hr (fun t ht hW => ⟨⟨(-1), (), rfl, Or.inl (⟨c1_, rfl⟩), trivial⟩, hS.F ht⟩) hS.2.2 dX11_code_13
  · skip
    refine lv_if_ne (tgt := 14) hx hb dX11_code_9 (by decide) (fun c9_ => absurd (by decide) c9_) (fun _ => ?_)
    refine lv_iconst (v := (-1)) hx hb dX11_code_12 (by decide) ?_
    exact W.iret (v := (-1)) hx hb hr (fun t ht hW => ⟨⟨(-1), (), rfl, Or.inr (Or.inl (⟨c2_, c3_, rfl⟩)), trivial⟩, hS.F ht⟩) hS.2.2 dX11_code_13
  · skip
    subst c4_
    refine lv_if_ne (tgt := 14) hx hb dX11_code_9 (by decide) (fun c9_ => absurd (by decide) c9_) (fun _ => ?_)
    refine lv_iconst (v := (-1)) hx hb dX11_code_12 (by decide) ?_
    exact W.iret (v := (-1)) hx hb hr (fun t ht hW => ⟨⟨(-1), (), rfl, Or.inr (Or.inr (⟨rfl, rfl⟩)), trivial⟩, hS.F ht⟩) hS.2.2 dX11_code_13
  · skip
    exact absurd c7_ (by decide)

theorem dX11_lookUp_0 : decode cX11_lookUp 0 = .ok (.aload_n 0, 1) := by decide +kernel
theorem dX11_lookUp_1 : decode cX11_lookUp 1 = .ok (.getfield 24, 3) := by decide +kernel
theorem dX11_lookUp_4 : decode cX11_lookUp 4 = .ok (.iload_n 1, 1) := by decide +kernel
theorem dX11_lookUp_5 : decode cX11_lookUp 5 = .ok (.iconst 1, 1) := by decide +kernel
theorem dX11_lookUp_6 : decode cX11_lookUp 6 = .ok (.invokevirtual 85, 3) := by decide +kernel
theorem dX11_lookUp_9 : decode cX11_lookUp 9 = .ok (.ifCond .eq 15, 3) := by decide +kernel
theorem dX11_lookUp_12 : decode cX11_lookUp 12 = .ok (.aload_n 0, 1) := by decide +kernel
theorem dX11_lookUp_13 : decode cX11_lookUp 13 = .ok (.getfield 24, 3) := by decide +kernel
theorem dX11_lookUp_16 : decode cX11_lookUp 16 = .ok (.iload_n 1, 1) := by decide +kernel
theorem dX11_lookUp_17 : decode cX11_lookUp 17 = .ok (.iload_n 2, 1) := by decide +kernel
theorem dX11_lookUp_18 : decode cX11_lookUp 18 = .ok (.invokevirtual 223, 3) := by decide +kernel
theorem dX11_lookUp_21 : decode cX11_lookUp 21 = .ok (.goto 4, 3) := by decide +kernel
theorem dX11_lookUp_24 : decode cX11_lookUp 24 = .ok (.iconst (-1), 1) := by decide +kernel
theorem dX11_lookUp_25 : decode cX11_lookUp 25 = .ok (.ireturn, 1) := by decide +kernel
def v_X11_lookUp : List Cond := .code yX11_lookUp cX11_lookUp 3 (some .int) :: ([.fieldLink RX11 24 "RestBoard" "tree" "LRestBoard$Tree;", .methodLink RX11 85 yX10_is, .instanceMethod yX10_is, .selects RX10 yX10_is yX10_is, .initialized RX10, .code yX10_is cX10_is 3 (some .boolean), .fieldLink RX10 11 "RestBoard$Tree" "nodes" "[LRestBoard$Node;", .fieldLink RX10 36 "RestBoard$Node" "kind" "I", .methodLink RX10 32 yX10_has, .instanceMethod yX10_has, .selects RX10 yX10_has yX10_has, .code yX10_has cX10_has 2 (some .boolean), .fieldLink RX10 17 "RestBoard$Tree" "now" "LRestBoard$State;", .fieldLink RX10 26 "RestBoard$State" "size" "I", .methodLink RX11 223 yX10_find, .instanceMethod yX10_find, .selects RX10 yX10_find yX10_find, .code yX10_find cX10_find 6 (some .int), .fieldLink RX10 46 "RestBoard$Node" "parent" "I", .methodLink RX10 49 yX10_child, .instanceMethod yX10_child, .selects RX10 yX10_child yX10_child, .code yX10_child cX10_child 5 (some .int)] ++ wsX110 ++ wsX100 ++ wsX40 ++ wsX80)
theorem m_X11_lookUp_0 : (.fieldLink RX11 24 "RestBoard" "tree" "LRestBoard$Tree;" : Cond) ∈ v_X11_lookUp := List.mem_of_getElem? (i := 1) (by decide +kernel)
theorem i_X11_lookUp_X11 : ∀ w ∈ u_ws RX11 TX11 11, w ∈ v_X11_lookUp := fun w h => List.mem_cons_of_mem _ (List.mem_append_left _ (List.mem_append_left _ (List.mem_append_left _ (List.mem_append_right _ h))))
set_option maxRecDepth 100000 in
theorem gg_X11_lookUp_X10_is_85 : GoodIn v_X11_lookUp v_X10_is := goodIn_r _ [6, 7, 8, 9, 10, 11, 5, 12, 13, 14, 35, 36, 37, 38, 39, 40, 41, 42, 43, 44, 45, 46, 47, 48, 49, 50, 51, 52, 53, 54, 55, 56, 57, 58, 59, 60, 61, 62, 63, 64, 65, 66, 67] (by decide +kernel) (by decide +kernel)
set_option maxRecDepth 100000 in
theorem g_X11_lookUp_X10_is_85 : GoodIn v_X11_lookUp (wsV RX11 85 RX10 yX10_is v_X10_is) := goodIn_app (goodIn_r _ [2, 3, 4, 5] (by decide +kernel) (by decide +kernel)) gg_X11_lookUp_X10_is_85
set_option maxRecDepth 100000 in
theorem gg_X11_lookUp_X10_find_223 : GoodIn v_X11_lookUp v_X10_find := goodIn_r _ [18, 13, 14, 7, 19, 20, 21, 22, 5, 23, 35, 36, 51, 52, 53, 54, 55, 56, 57, 58, 59, 60, 61, 62, 63, 64, 65, 66, 67, 37, 38, 39, 40, 41, 42, 43, 44, 45, 46, 47, 48, 49, 50] (by decide +kernel) (by decide +kernel)
set_option maxRecDepth 100000 in
theorem g_X11_lookUp_X10_find_223 : GoodIn v_X11_lookUp (wsV RX11 223 RX10 yX10_find v_X10_find) := goodIn_app (goodIn_r _ [15, 16, 17, 5] (by decide +kernel) (by decide +kernel)) gg_X11_lookUp_X10_find_223
set_option maxHeartbeats 4000000 in
set_option maxRecDepth 100000 in
theorem c_X11_lookUp (l : Launch) (dC : Nat → ClassId) (dI : Nat → Nat → Nat) (cy : Nat → ClassId) (a : Nat → Nat) (g : Nat → Nat → Option Nat) (p0 p1 : Int32) : Met l yX11_lookUp v_X11_lookUp ({ frames := 2, cells := 0, slots := 0, locals := 49 }) (va_Pc [.ref (a 0), .int p0, .int p1] (pp dC dI cy (fw a cy g))) (va_Qi (fun (r : Int32) (_ : Unit) => ((p0 < 0) ∧ r = (-1)) ∨ ((¬ p0 < 0) ∧ ((1 : Int32) ≤ p0) ∧ r = (-1)) ∨ ((p0 = 0) ∧ r = (-1))) (fun _ _ => True) (fun _ => False)) 0 0 (fun _ => False) := by
  refine Met.ofW (cc := cX11_lookUp) (maxL := 3) (ret := (some .int)) (by decide) rfl ?_
  intro p e s m args below meth c s₁ B hml hv
  obtain ⟨rfl, hP, hC⟩ := hv
  have hK := hC.1
  have hx := B.exec
  have hb := B.bytes
  have hr := B.returns
  have hts := atoms_spec (ws := v_X11_lookUp) B.pre
  have hown : s.vm.findClass RX11 = some m.cls := findClass_of_methodNamed B.named
  have hlocks := B.notSynchronized
  have hS : va_S (fun _ => False) s.heap s.heap [] := va_S.rf
  have hl := lv_entry ([.ref (a 0), .int p0, .int p1]) (n := 3) (Nat.le_of_ble_eq_true rfl)
  rw [lg_entry_eq]
  generalize (lg_sl ([.ref (a 0), .int p0, .int p1]) ++ List.replicate (3 - (lg_sl ([.ref (a 0), .int p0, .int p1])).length) Slot.unset).toArray = ls at hl ⊢
  have hl : lv_has ls 3 [(0, .ref (a 0)), (1, .int p0), (2, .int p1)] := hl
  refine lv_aload_n hx hb dX11_lookUp_0 rfl (lv_at hl 0 rfl) ?_
  refine va_get (D := (dC, dI)) (ci := 11) (v := .ref (a 21)) (C := RX11) (T := TX11) (N := 11) hx hb hts i_X11_lookUp_X11 hown hK hP 0 rfl rfl 2 (by decide) (hts _ m_X11_lookUp_0) (fun _ h9 => h9) rfl dX11_lookUp_1 ?_
  refine lv_iload_n hx hb dX11_lookUp_4 rfl (lv_at hl 1 rfl) ?_
  refine lv_iconst (v := 1) hx hb dX11_lookUp_5 (by decide) ?_
  refine tk_pi (va_runV (As := [.int p0, .int 1]) (rest := []) ⟨hx, hb, hml, hown, hts⟩ (c_X10_is l dC dI cy a g p0 1) (cwV 2 hts g_X11_lookUp_X10_is_85 rfl rfl rfl (by decide +kernel) ⟨Nat.le_of_ble_eq_true rfl, Nat.le_of_ble_eq_true rfl⟩) (pv_pp hC hP (ci := 10) (q0 := 21) rfl rfl) rfl rfl hl.1 rfl (lv_room (Nat.le_of_ble_eq_true rfl)) dX11_lookUp_6 ⟨Nat.le_of_ble_eq_true rfl, Nat.le_of_ble_eq_true rfl⟩) hP hS (fun r_ H locs hw hP hS => ?_)
  rcases hw with ⟨c1_, rfl⟩ | ⟨c2_, c3_, rfl⟩ | ⟨c4_, c5_, rfl⟩ | ⟨c6_, -, rfl⟩
  · skip
    refine lv_if_eq (tgt := 24) hx hb dX11_lookUp_9 (by decide) (fun _ => ?_) (fun c9_ => absurd (by decide) c9_)
    refine lv_iconst (v := (-1)) hx hb dX11_lookUp_24 (by decide) ?_
    exact W.iret (v := (-1)) hx hb hr (fun t ht hW => ⟨⟨(-1), (), rfl, Or.inl (⟨c1_, rfl⟩), trivial⟩, hS.F ht⟩) hS.2.2 dX11_lookUp_25
  · skip
    refine lv_if_eq (tgt := 24) hx hb dX11_lookUp_9 (by decide) (fun _ => ?_) (fun c9_ => absurd (by decide) c9_)
    refine lv_iconst (v := (-1)) hx hb dX11_lookUp_24 (by decide) ?_
    exact W.iret (v := (-1)) hx hb hr (fun t ht hW => ⟨⟨(-1), (), rfl, Or.inr (Or.inl (⟨c2_, c3_, rfl⟩)), trivial⟩, hS.F ht⟩) hS.2.2 dX11_lookUp_25
  · skip
    exact absurd c5_ (by decide)
  · skip
    subst c6_
    refine lv_if_eq (tgt := 24) hx hb dX11_lookUp_9 (by decide) (fun c9_ => absurd c9_ (by decide)) (fun _ => ?_)
    refine lv_aload_n hx hb dX11_lookUp_12 rfl (lv_at hl 0 rfl) ?_
    refine va_get (D := (dC, dI)) (ci := 11) (v := .ref (a 21)) (C := RX11) (T := TX11) (N := 11) hx hb hts i_X11_lookUp_X11 hown hK hP 0 rfl rfl 2 (by decide) (hts _ m_X11_lookUp_0) (fun _ h9 => h9) rfl dX11_lookUp_13 ?_
    refine lv_iload_n hx hb dX11_lookUp_16 rfl (lv_at hl 1 rfl) ?_
    refine lv_iload_n hx hb dX11_lookUp_17 rfl (lv_at hl 2 rfl) ?_
    refine tk_pi (va_runV (As := [.int 0, .int p1]) (rest := []) ⟨hx, hb, hml, hown, hts⟩ (c_X10_find l dC dI cy a g p1) (cwV 2 hts g_X11_lookUp_X10_find_223 rfl rfl rfl (by decide +kernel) ⟨Nat.le_of_ble_eq_true rfl, Nat.le_of_ble_eq_true rfl⟩) (pv_pp hC hP (ci := 10) (q0 := 21) rfl rfl) rfl rfl hl.1 rfl (lv_room (Nat.le_of_ble_eq_true rfl)) dX11_lookUp_18 ⟨Nat.le_of_ble_eq_true rfl, Nat.le_of_ble_eq_true rfl⟩) hP hS (fun r_ H locs hw hP hS => ?_)
    subst hw
    refine lv_goto (tgt := 25) hx hb dX11_lookUp_21 (by decide) ?_
    exact W.iret (v := (-1)) hx hb hr (fun t ht hW => ⟨⟨(-1), (), rfl, Or.inr (Or.inr (⟨rfl, rfl⟩)), trivial⟩, hS.F ht⟩) hS.2.2 dX11_lookUp_25

theorem dX11_wants_0 : decode cX11_wants 0 = .ok (.aload_n 0, 1) := by decide +kernel
theorem dX11_wants_1 : decode cX11_wants 1 = .ok (.getfield 24, 3) := by decide +kernel
theorem dX11_wants_4 : decode cX11_wants 4 = .ok (.iload_n 1, 1) := by decide +kernel
theorem dX11_wants_5 : decode cX11_wants 5 = .ok (.iconst 1, 1) := by decide +kernel
theorem dX11_wants_6 : decode cX11_wants 6 = .ok (.invokevirtual 85, 3) := by decide +kernel
theorem dX11_wants_9 : decode cX11_wants 9 = .ok (.ifCond .eq 14, 3) := by decide +kernel
theorem dX11_wants_12 : decode cX11_wants 12 = .ok (.aload_n 0, 1) := by decide +kernel
theorem dX11_wants_13 : decode cX11_wants 13 = .ok (.getfield 49, 3) := by decide +kernel
theorem dX11_wants_16 : decode cX11_wants 16 = .ok (.iload_n 1, 1) := by decide +kernel
theorem dX11_wants_17 : decode cX11_wants 17 = .ok (.invokevirtual 233, 3) := by decide +kernel
theorem dX11_wants_20 : decode cX11_wants 20 = .ok (.goto 6, 3) := by decide +kernel
theorem dX11_wants_23 : decode cX11_wants 23 = .ok (.ldc2_w 237, 3) := by decide +kernel
theorem dX11_wants_26 : decode cX11_wants 26 = .ok (.lreturn, 1) := by decide +kernel
def v_X11_wants : List Cond := .code yX11_wants cX11_wants 2 (some .long) :: ([.fieldLink RX11 24 "RestBoard" "tree" "LRestBoard$Tree;", .constantLong RX11 237 (-1), .fieldLink RX11 49 "RestBoard" "powers" "LRestBoard$Powers;", .methodLink RX11 85 yX10_is, .instanceMethod yX10_is, .selects RX10 yX10_is yX10_is, .initialized RX10, .code yX10_is cX10_is 3 (some .boolean), .fieldLink RX10 11 "RestBoard$Tree" "nodes" "[LRestBoard$Node;", .fieldLink RX10 36 "RestBoard$Node" "kind" "I", .methodLink RX10 32 yX10_has, .instanceMethod yX10_has, .selects RX10 yX10_has yX10_has, .code yX10_has cX10_has 2 (some .boolean), .fieldLink RX10 17 "RestBoard$Tree" "now" "LRestBoard$State;", .fieldLink RX10 26 "RestBoard$State" "size" "I", .methodLink RX11 233 yX5_needs, .instanceMethod yX5_needs, .selects RX5 yX5_needs yX5_needs, .initialized RX5, .code yX5_needs cX5_needs 2 (some .long), .fieldLink RX5 22 "RestBoard$Powers" "now" "LRestBoard$State;", .fieldLink RX5 80 "RestBoard$State" "wanting" "[I", .fieldLink RX5 116 "RestBoard$State" "tied" "[I", .methodLink RX5 159 yX5_bits, .static yX5_bits, .code yX5_bits cX5_bits 6 (some .long)] ++ wsX110 ++ wsX100 ++ wsX40 ++ wsX80 ++ wsX50)
theorem m_X11_wants_0 : (.fieldLink RX11 24 "RestBoard" "tree" "LRestBoard$Tree;" : Cond) ∈ v_X11_wants := List.mem_of_getElem? (i := 1) (by decide +kernel)
theorem m_X11_wants_1 : (.constantLong RX11 237 (-1) : Cond) ∈ v_X11_wants := List.mem_of_getElem? (i := 2) (by decide +kernel)
theorem m_X11_wants_2 : (.fieldLink RX11 49 "RestBoard" "powers" "LRestBoard$Powers;" : Cond) ∈ v_X11_wants := List.mem_of_getElem? (i := 3) (by decide +kernel)
theorem i_X11_wants_X11 : ∀ w ∈ u_ws RX11 TX11 11, w ∈ v_X11_wants := fun w h => List.mem_cons_of_mem _ (List.mem_append_left _ (List.mem_append_left _ (List.mem_append_left _ (List.mem_append_left _ (List.mem_append_right _ h)))))
set_option maxRecDepth 100000 in
theorem gg_X11_wants_X10_is_85 : GoodIn v_X11_wants v_X10_is := goodIn_r _ [8, 9, 10, 11, 12, 13, 7, 14, 15, 16, 39, 40, 41, 42, 43, 44, 45, 46, 47, 48, 49, 50, 51, 52, 53, 54, 55, 56, 57, 58, 59, 60, 61, 62, 63, 64, 65, 66, 67, 68, 69, 70, 71] (by decide +kernel) (by decide +kernel)
set_option maxRecDepth 100000 in
theorem g_X11_wants_X10_is_85 : GoodIn v_X11_wants (wsV RX11 85 RX10 yX10_is v_X10_is) := goodIn_app (goodIn_r _ [4, 5, 6, 7] (by decide +kernel) (by decide +kernel)) gg_X11_wants_X10_is_85
set_option maxRecDepth 100000 in
theorem gg_X11_wants_X5_needs_233 : GoodIn v_X11_wants v_X5_needs := goodIn_r _ [21, 22, 23, 24, 25, 26, 20, 27, 72, 73, 74, 75, 55, 56, 57, 58, 59, 60, 61, 62, 63, 64, 65, 66, 67, 68, 69, 70, 71] (by decide +kernel) (by decide +kernel)
set_option maxRecDepth 100000 in
theorem g_X11_wants_X5_needs_233 : GoodIn v_X11_wants (wsV RX11 233 RX5 yX5_needs v_X5_needs) := goodIn_app (goodIn_r _ [17, 18, 19, 20] (by decide +kernel) (by decide +kernel)) gg_X11_wants_X5_needs_233
set_option maxHeartbeats 4000000 in
set_option maxRecDepth 100000 in
theorem c_X11_wants (l : Launch) (dC : Nat → ClassId) (dI : Nat → Nat → Nat) (cy : Nat → ClassId) (a : Nat → Nat) (g : Nat → Nat → Option Nat) (p0 : Int32) : Met l yX11_wants v_X11_wants ({ frames := 2, cells := 0, slots := 0, locals := 46 }) (va_Pc [.ref (a 0), .int p0] (pp dC dI cy (fw a cy g))) (va_Ql (fun (r : Int64) (_ : Unit) => ((p0 < 0) ∧ r = (Int32.toInt64 (-1))) ∨ ((¬ p0 < 0) ∧ ((1 : Int32) ≤ p0) ∧ r = (Int32.toInt64 (-1))) ∨ ((p0 = 0) ∧ r = (Int32.toInt64 0))) (fun _ _ => True) (fun _ => False)) 0 0 (fun _ => False) := by
  refine Met.ofW (cc := cX11_wants) (maxL := 2) (ret := (some .long)) (by decide) rfl ?_
  intro p e s m args below meth c s₁ B hml hv
  obtain ⟨rfl, hP, hC⟩ := hv
  have hK := hC.1
  have hx := B.exec
  have hb := B.bytes
  have hr := B.returns
  have hts := atoms_spec (ws := v_X11_wants) B.pre
  have hown : s.vm.findClass RX11 = some m.cls := findClass_of_methodNamed B.named
  have hlocks := B.notSynchronized
  have hS : va_S (fun _ => False) s.heap s.heap [] := va_S.rf
  have hl := lv_entry ([.ref (a 0), .int p0]) (n := 2) (Nat.le_of_ble_eq_true rfl)
  rw [lg_entry_eq]
  generalize (lg_sl ([.ref (a 0), .int p0]) ++ List.replicate (2 - (lg_sl ([.ref (a 0), .int p0])).length) Slot.unset).toArray = ls at hl ⊢
  have hl : lv_has ls 2 [(0, .ref (a 0)), (1, .int p0)] := hl
  refine lv_aload_n hx hb dX11_wants_0 rfl (lv_at hl 0 rfl) ?_
  refine va_get (D := (dC, dI)) (ci := 11) (v := .ref (a 21)) (C := RX11) (T := TX11) (N := 11) hx hb hts i_X11_wants_X11 hown hK hP 0 rfl rfl 2 (by decide) (hts _ m_X11_wants_0) (fun _ h9 => h9) rfl dX11_wants_1 ?_
  refine lv_iload_n hx hb dX11_wants_4 rfl (lv_at hl 1 rfl) ?_
  refine lv_iconst (v := 1) hx hb dX11_wants_5 (by decide) ?_
  refine tk_pi (va_runV (As := [.int p0, .int 1]) (rest := []) ⟨hx, hb, hml, hown, hts⟩ (c_X10_is l dC dI cy a g p0 1) (cwV 2 hts g_X11_wants_X10_is_85 rfl rfl rfl (by decide +kernel) ⟨Nat.le_of_ble_eq_true rfl, Nat.le_of_ble_eq_true rfl⟩) (pv_pp hC hP (ci := 10) (q0 := 21) rfl rfl) rfl rfl hl.1 rfl (lv_room (Nat.le_of_ble_eq_true rfl)) dX11_wants_6 ⟨Nat.le_of_ble_eq_true rfl, Nat.le_of_ble_eq_true rfl⟩) hP hS (fun r_ H locs hw hP hS => ?_)
  rcases hw with ⟨c1_, rfl⟩ | ⟨c2_, c3_, rfl⟩ | ⟨c4_, c5_, rfl⟩ | ⟨c6_, -, rfl⟩
  · skip
    refine lv_if_eq (tgt := 23) hx hb dX11_wants_9 (by decide) (fun _ => ?_) (fun c9_ => absurd (by decide) c9_)
    refine lv_ldc2 (v := (-1)) hx hb hown (hts _ m_X11_wants_1) dX11_wants_23 ?_
    refine tk_l (Int32.toInt64 (-1)) (by decide) ?_
    exact W.lret (v := (Int32.toInt64 (-1))) hx hb hr (fun t ht hW => ⟨⟨(Int32.toInt64 (-1)), (), rfl, Or.inl (⟨c1_, rfl⟩), trivial⟩, hS.F ht⟩) hS.2.2 dX11_wants_26
  · skip
    refine lv_if_eq (tgt := 23) hx hb dX11_wants_9 (by decide) (fun _ => ?_) (fun c9_ => absurd (by decide) c9_)
    refine lv_ldc2 (v := (-1)) hx hb hown (hts _ m_X11_wants_1) dX11_wants_23 ?_
    refine tk_l (Int32.toInt64 (-1)) (by decide) ?_
    exact W.lret (v := (Int32.toInt64 (-1))) hx hb hr (fun t ht hW => ⟨⟨(Int32.toInt64 (-1)), (), rfl, Or.inr (Or.inl (⟨c2_, c3_, rfl⟩)), trivial⟩, hS.F ht⟩) hS.2.2 dX11_wants_26
  · skip
    exact absurd c5_ (by decide)
  · skip
    subst c6_
    refine lv_if_eq (tgt := 23) hx hb dX11_wants_9 (by decide) (fun c9_ => absurd c9_ (by decide)) (fun _ => ?_)
    refine lv_aload_n hx hb dX11_wants_12 rfl (lv_at hl 0 rfl) ?_
    refine va_get (D := (dC, dI)) (ci := 11) (v := .ref (a 30)) (C := RX11) (T := TX11) (N := 11) hx hb hts i_X11_wants_X11 hown hK hP 0 rfl rfl 5 (by decide) (hts _ m_X11_wants_2) (fun _ h9 => h9) rfl dX11_wants_13 ?_
    refine lv_iload_n hx hb dX11_wants_16 rfl (lv_at hl 1 rfl) ?_
    refine tk_pl (va_runV (As := [.int 0]) (rest := []) ⟨hx, hb, hml, hown, hts⟩ (c_X5_needs l dC dI cy a g) (cwV 1 hts g_X11_wants_X5_needs_233 rfl rfl rfl (by decide +kernel) ⟨Nat.le_of_ble_eq_true rfl, Nat.le_of_ble_eq_true rfl⟩) (pv_pp hC hP (ci := 5) (q0 := 30) rfl rfl) rfl rfl hl.1 rfl (lv_room (Nat.le_of_ble_eq_true rfl)) dX11_wants_17 ⟨Nat.le_of_ble_eq_true rfl, Nat.le_of_ble_eq_true rfl⟩) hP hS (fun r_ H locs hw hP hS => ?_)
    subst hw
    refine lv_goto (tgt := 26) hx hb dX11_wants_20 (by decide) ?_
    exact W.lret (v := (Int32.toInt64 0)) hx hb hr (fun t ht hW => ⟨⟨(Int32.toInt64 0), (), rfl, Or.inr (Or.inr (⟨rfl, rfl⟩)), trivial⟩, hS.F ht⟩) hS.2.2 dX11_wants_26

theorem dX11_wanted_0 : decode cX11_wanted 0 = .ok (.aload_n 0, 1) := by decide +kernel
theorem dX11_wanted_1 : decode cX11_wanted 1 = .ok (.getfield 24, 3) := by decide +kernel
theorem dX11_wanted_4 : decode cX11_wanted 4 = .ok (.iload_n 1, 1) := by decide +kernel
theorem dX11_wanted_5 : decode cX11_wanted 5 = .ok (.iconst 2, 1) := by decide +kernel
theorem dX11_wanted_6 : decode cX11_wanted 6 = .ok (.invokevirtual 85, 3) := by decide +kernel
theorem dX11_wanted_9 : decode cX11_wanted 9 = .ok (.ifCond .ne 7, 3) := by decide +kernel
theorem dX11_wanted_12 : decode cX11_wanted 12 = .ok (.ldc2_w 237, 3) := by decide +kernel
theorem dX11_wanted_15 : decode cX11_wanted 15 = .ok (.lreturn, 1) := by decide +kernel
def v_X11_wanted : List Cond := .code yX11_wanted cX11_wanted 5 (some .long) :: ([.fieldLink RX11 24 "RestBoard" "tree" "LRestBoard$Tree;", .constantLong RX11 237 (-1), .methodLink RX11 85 yX10_is, .instanceMethod yX10_is, .selects RX10 yX10_is yX10_is, .initialized RX10, .code yX10_is cX10_is 3 (some .boolean), .fieldLink RX10 11 "RestBoard$Tree" "nodes" "[LRestBoard$Node;", .fieldLink RX10 36 "RestBoard$Node" "kind" "I", .methodLink RX10 32 yX10_has, .instanceMethod yX10_has, .selects RX10 yX10_has yX10_has, .code yX10_has cX10_has 2 (some .boolean), .fieldLink RX10 17 "RestBoard$Tree" "now" "LRestBoard$State;", .fieldLink RX10 26 "RestBoard$State" "size" "I"] ++ wsX110 ++ wsX100 ++ wsX40 ++ wsX80)
theorem m_X11_wanted_0 : (.fieldLink RX11 24 "RestBoard" "tree" "LRestBoard$Tree;" : Cond) ∈ v_X11_wanted := List.mem_of_getElem? (i := 1) (by decide +kernel)
theorem m_X11_wanted_1 : (.constantLong RX11 237 (-1) : Cond) ∈ v_X11_wanted := List.mem_of_getElem? (i := 2) (by decide +kernel)
theorem i_X11_wanted_X11 : ∀ w ∈ u_ws RX11 TX11 11, w ∈ v_X11_wanted := fun w h => List.mem_cons_of_mem _ (List.mem_append_left _ (List.mem_append_left _ (List.mem_append_left _ (List.mem_append_right _ h))))
set_option maxRecDepth 100000 in
theorem gg_X11_wanted_X10_is_85 : GoodIn v_X11_wanted v_X10_is := goodIn_r _ [7, 8, 9, 10, 11, 12, 6, 13, 14, 15, 27, 28, 29, 30, 31, 32, 33, 34, 35, 36, 37, 38, 39, 40, 41, 42, 43, 44, 45, 46, 47, 48, 49, 50, 51, 52, 53, 54, 55, 56, 57, 58, 59] (by decide +kernel) (by decide +kernel)
set_option maxRecDepth 100000 in
theorem g_X11_wanted_X10_is_85 : GoodIn v_X11_wanted (wsV RX11 85 RX10 yX10_is v_X10_is) := goodIn_app (goodIn_r _ [3, 4, 5, 6] (by decide +kernel) (by decide +kernel)) gg_X11_wanted_X10_is_85
set_option maxHeartbeats 4000000 in
set_option maxRecDepth 100000 in
theorem c_X11_wanted (l : Launch) (dC : Nat → ClassId) (dI : Nat → Nat → Nat) (cy : Nat → ClassId) (a : Nat → Nat) (g : Nat → Nat → Option Nat) (p0 : Int32) : Met l yX11_wanted v_X11_wanted ({ frames := 2, cells := 0, slots := 0, locals := 43 }) (va_Pc [.ref (a 0), .int p0] (pp dC dI cy (fw a cy g))) (va_Ql (fun (r : Int64) (_ : Unit) => ((p0 < 0) ∧ r = (Int32.toInt64 (-1))) ∨ ((¬ p0 < 0) ∧ ((1 : Int32) ≤ p0) ∧ r = (Int32.toInt64 (-1))) ∨ ((p0 = 0) ∧ r = (Int32.toInt64 (-1)))) (fun _ _ => True) (fun _ => False)) 0 0 (fun _ => False) := by
  refine Met.ofW (cc := cX11_wanted) (maxL := 5) (ret := (some .long)) (by decide) rfl ?_
  intro p e s m args below meth c s₁ B hml hv
  obtain ⟨rfl, hP, hC⟩ := hv
  have hK := hC.1
  have hx := B.exec
  have hb := B.bytes
  have hr := B.returns
  have hts := atoms_spec (ws := v_X11_wanted) B.pre
  have hown : s.vm.findClass RX11 = some m.cls := findClass_of_methodNamed B.named
  have hlocks := B.notSynchronized
  have hS : va_S (fun _ => False) s.heap s.heap [] := va_S.rf
  have hl := lv_entry ([.ref (a 0), .int p0]) (n := 5) (Nat.le_of_ble_eq_true rfl)
  rw [lg_entry_eq]
  generalize (lg_sl ([.ref (a 0), .int p0]) ++ List.replicate (5 - (lg_sl ([.ref (a 0), .int p0])).length) Slot.unset).toArray = ls at hl ⊢
  have hl : lv_has ls 5 [(0, .ref (a 0)), (1, .int p0)] := hl
  refine lv_aload_n hx hb dX11_wanted_0 rfl (lv_at hl 0 rfl) ?_
  refine va_get (D := (dC, dI)) (ci := 11) (v := .ref (a 21)) (C := RX11) (T := TX11) (N := 11) hx hb hts i_X11_wanted_X11 hown hK hP 0 rfl rfl 2 (by decide) (hts _ m_X11_wanted_0) (fun _ h9 => h9) rfl dX11_wanted_1 ?_
  refine lv_iload_n hx hb dX11_wanted_4 rfl (lv_at hl 1 rfl) ?_
  refine lv_iconst (v := 2) hx hb dX11_wanted_5 (by decide) ?_
  refine tk_pi (va_runV (As := [.int p0, .int 2]) (rest := []) ⟨hx, hb, hml, hown, hts⟩ (c_X10_is l dC dI cy a g p0 2) (cwV 2 hts g_X11_wanted_X10_is_85 rfl rfl rfl (by decide +kernel) ⟨Nat.le_of_ble_eq_true rfl, Nat.le_of_ble_eq_true rfl⟩) (pv_pp hC hP (ci := 10) (q0 := 21) rfl rfl) rfl rfl hl.1 rfl (lv_room (Nat.le_of_ble_eq_true rfl)) dX11_wanted_6 ⟨Nat.le_of_ble_eq_true rfl, Nat.le_of_ble_eq_true rfl⟩) hP hS (fun r_ H locs hw hP hS => ?_)
  rcases hw with ⟨c1_, rfl⟩ | ⟨c2_, c3_, rfl⟩ | ⟨c4_, -, rfl⟩ | ⟨c6_, c7_, rfl⟩
  · skip
    refine lv_if_ne (tgt := 16) hx hb dX11_wanted_9 (by decide) (fun c9_ => absurd (by decide) c9_) (fun _ => ?_)
    refine lv_ldc2 (v := (-1)) hx hb hown (hts _ m_X11_wanted_1) dX11_wanted_12 ?_
    refine tk_l (Int32.toInt64 (-1)) (by decide) ?_
    exact W.lret (v := (Int32.toInt64 (-1))) hx hb hr (fun t ht hW => ⟨⟨(Int32.toInt64 (-1)), (), rfl, Or.inl (⟨c1_, rfl⟩), trivial⟩, hS.F ht⟩) hS.2.2 dX11_wanted_15
  · skip
    refine lv_if_ne (tgt := 16) hx hb dX11_wanted_9 (by decide) (fun c9_ => absurd (by decide) c9_) (fun _ => ?_)
    refine lv_ldc2 (v := (-1)) hx hb hown (hts _ m_X11_wanted_1) dX11_wanted_12 ?_
    refine tk_l (Int32.toInt64 (-1)) (by decide) ?_
    exact W.lret (v := (Int32.toInt64 (-1))) hx hb hr (fun t ht hW => ⟨⟨(Int32.toInt64 (-1)), (), rfl, Or.inr (Or.inl (⟨c2_, c3_, rfl⟩)), trivial⟩, hS.F ht⟩) hS.2.2 dX11_wanted_15
  · skip
    subst c4_
    refine lv_if_ne (tgt := 16) hx hb dX11_wanted_9 (by decide) (fun c9_ => absurd (by decide) c9_) (fun _ => ?_)
    refine lv_ldc2 (v := (-1)) hx hb hown (hts _ m_X11_wanted_1) dX11_wanted_12 ?_
    refine tk_l (Int32.toInt64 (-1)) (by decide) ?_
    exact W.lret (v := (Int32.toInt64 (-1))) hx hb hr (fun t ht hW => ⟨⟨(Int32.toInt64 (-1)), (), rfl, Or.inr (Or.inr (⟨rfl, rfl⟩)), trivial⟩, hS.F ht⟩) hS.2.2 dX11_wanted_15
  · skip
    exact absurd c7_ (by decide)

theorem dX11_deepest_0 : decode cX11_deepest 0 = .ok (.iconst 4, 1) := by decide +kernel
theorem dX11_deepest_1 : decode cX11_deepest 1 = .ok (.istore_n 1, 1) := by decide +kernel
theorem dX11_deepest_2 : decode cX11_deepest 2 = .ok (.iload_n 1, 1) := by decide +kernel
theorem dX11_deepest_3 : decode cX11_deepest 3 = .ok (.ifCond .le 22, 3) := by decide +kernel
theorem dX11_deepest_6 : decode cX11_deepest 6 = .ok (.aload_n 0, 1) := by decide +kernel
theorem dX11_deepest_7 : decode cX11_deepest 7 = .ok (.getfield 58, 3) := by decide +kernel
theorem dX11_deepest_10 : decode cX11_deepest 10 = .ok (.iload_n 1, 1) := by decide +kernel
theorem dX11_deepest_11 : decode cX11_deepest 11 = .ok (.invokevirtual 239, 3) := by decide +kernel
theorem dX11_deepest_14 : decode cX11_deepest 14 = .ok (.ifCond .ne 5, 3) := by decide +kernel
theorem dX11_deepest_19 : decode cX11_deepest 19 = .ok (.iinc 1 (-1), 3) := by decide +kernel
theorem dX11_deepest_22 : decode cX11_deepest 22 = .ok (.goto (-20), 3) := by decide +kernel
theorem dX11_deepest_25 : decode cX11_deepest 25 = .ok (.iconst 0, 1) := by decide +kernel
theorem dX11_deepest_26 : decode cX11_deepest 26 = .ok (.ireturn, 1) := by decide +kernel
def v_X11_deepest : List Cond := .code yX11_deepest cX11_deepest 2 (some .int) :: ([.fieldLink RX11 58 "RestBoard" "rests" "LRestBoard$Rests;", .methodLink RX11 239 yX7_obstacle, .instanceMethod yX7_obstacle, .selects RX7 yX7_obstacle yX7_obstacle, .initialized RX7, .code yX7_obstacle cX7_obstacle 4 (some .int), .methodLink RX7 31 yX7_numberOf, .instanceMethod yX7_numberOf, .selects RX7 yX7_numberOf yX7_numberOf, .code yX7_numberOf cX7_numberOf 2 (some .int), .fieldLink RX7 15 "RestBoard$Rests" "tree" "LRestBoard$Tree;", .methodLink RX7 73 yX10_own, .instanceMethod yX10_own, .selects RX10 yX10_own yX10_own, .initialized RX10, .code yX10_own cX10_own 5 (some .int), .fieldLink RX10 17 "RestBoard$Tree" "now" "LRestBoard$State;", .fieldLink RX10 26 "RestBoard$State" "size" "I", .methodLink RX10 49 yX10_child, .instanceMethod yX10_child, .selects RX10 yX10_child yX10_child, .code yX10_child cX10_child 5 (some .int)] ++ wsX110 ++ wsX70 ++ wsX100 ++ wsX80)
theorem m_X11_deepest_0 : (.fieldLink RX11 58 "RestBoard" "rests" "LRestBoard$Rests;" : Cond) ∈ v_X11_deepest := List.mem_of_getElem? (i := 1) (by decide +kernel)
theorem i_X11_deepest_X11 : ∀ w ∈ u_ws RX11 TX11 11, w ∈ v_X11_deepest := fun w h => List.mem_cons_of_mem _ (List.mem_append_left _ (List.mem_append_left _ (List.mem_append_left _ (List.mem_append_right _ h))))
set_option maxRecDepth 100000 in
theorem gg_X11_deepest_X7_obstacle_239 : GoodIn v_X11_deepest v_X7_obstacle := goodIn_r _ [6, 7, 8, 9, 5, 10, 11, 12, 13, 14, 15, 16, 17, 18, 19, 20, 21, 22, 34, 35, 36, 37, 38, 39, 40, 41, 42, 43, 44, 45, 46, 47, 48, 49, 50, 51, 52, 53, 54, 55, 56, 57] (by decide +kernel) (by decide +kernel)
set_option maxRecDepth 100000 in
theorem g_X11_deepest_X7_obstacle_239 : GoodIn v_X11_deepest (wsV RX11 239 RX7 yX7_obstacle v_X7_obstacle) := goodIn_app (goodIn_r _ [2, 3, 4, 5] (by decide +kernel) (by decide +kernel)) gg_X11_deepest_X7_obstacle_239
set_option maxHeartbeats 4000000 in
set_option maxRecDepth 100000 in
theorem c_X11_deepest (l : Launch) (dC : Nat → ClassId) (dI : Nat → Nat → Nat) (cy : Nat → ClassId) (a : Nat → Nat) (g : Nat → Nat → Option Nat) : Met l yX11_deepest v_X11_deepest ({ frames := 4, cells := 0, slots := 0, locals := 92 }) (va_Pc [.ref (a 0)] (pp dC dI cy (fw a cy g))) (va_Qi (fun (r : Int32) (_ : Unit) => r = 0) (fun _ _ => True) (fun _ => False)) 0 0 (fun _ => False) := by
  refine Met.ofW (cc := cX11_deepest) (maxL := 2) (ret := (some .int)) (by decide) rfl ?_
  intro p e s m args below meth c s₁ B hml hv
  obtain ⟨rfl, hP, hC⟩ := hv
  have hK := hC.1
  have hx := B.exec
  have hb := B.bytes
  have hr := B.returns
  have hts := atoms_spec (ws := v_X11_deepest) B.pre
  have hown : s.vm.findClass RX11 = some m.cls := findClass_of_methodNamed B.named
  have hlocks := B.notSynchronized
  have hS : va_S (fun _ => False) s.heap s.heap [] := va_S.rf
  have hl := lv_entry ([.ref (a 0)]) (n := 2) (Nat.le_of_ble_eq_true rfl)
  rw [lg_entry_eq]
  generalize (lg_sl ([.ref (a 0)]) ++ List.replicate (2 - (lg_sl ([.ref (a 0)])).length) Slot.unset).toArray = ls at hl ⊢
  have hl : lv_has ls 2 [(0, .ref (a 0))] := hl
  refine lv_iconst (v := 4) hx hb dX11_deepest_0 (by decide) ?_
  refine lv_istore_n (lv' := [(1, .int 4), (0, .ref (a 0))]) hx hb dX11_deepest_1 rfl hl (by decide) rfl (fun ls hl => ?_)
  refine lv_iload_n hx hb dX11_deepest_2 rfl (lv_at hl 0 rfl) ?_
  refine lv_if_le (tgt := 25) hx hb dX11_deepest_3 (by decide) (fun c9_ => absurd c9_ (by decide)) (fun _ => ?_)
  refine lv_aload_n hx hb dX11_deepest_6 rfl (lv_at hl 1 rfl) ?_
  refine va_get (D := (dC, dI)) (ci := 11) (v := .ref (a 31)) (C := RX11) (T := TX11) (N := 11) hx hb hts i_X11_deepest_X11 hown hK hP 0 rfl rfl 6 (by decide) (hts _ m_X11_deepest_0) (fun _ h9 => h9) rfl dX11_deepest_7 ?_
  refine lv_iload_n hx hb dX11_deepest_10 rfl (lv_at hl 0 rfl) ?_
  refine tk_pi (va_runV (As := [.int 4]) (rest := []) ⟨hx, hb, hml, hown, hts⟩ (c_X7_obstacle l dC dI cy a g 4) (cwV 1 hts g_X11_deepest_X7_obstacle_239 rfl rfl rfl (by decide +kernel) ⟨Nat.le_of_ble_eq_true rfl, Nat.le_of_ble_eq_true rfl⟩) (pv_pp hC hP (ci := 7) (q0 := 31) rfl rfl) rfl rfl hl.1 rfl (lv_room (Nat.le_of_ble_eq_true rfl)) dX11_deepest_11 ⟨Nat.le_of_ble_eq_true rfl, Nat.le_of_ble_eq_true rfl⟩) hP hS (fun r_ H locs hw hP hS => ?_)
  subst hw
  refine lv_if_ne (tgt := 19) hx hb dX11_deepest_14 (by decide) (fun _ => ?_) (fun c9_ => absurd c9_ (by decide))
  refine lv_iinc (v := 3) (lv' := [(1, .int 3), (0, .ref (a 0))]) hx hb dX11_deepest_19 hl (k := 0) rfl (by decide) (by decide) rfl (fun ls hl => ?_)
  refine lv_goto (tgt := 2) hx hb dX11_deepest_22 (by decide) ?_
  refine lv_iload_n hx hb dX11_deepest_2 rfl (lv_at hl 0 rfl) ?_
  refine lv_if_le (tgt := 25) hx hb dX11_deepest_3 (by decide) (fun c9_ => absurd c9_ (by decide)) (fun _ => ?_)
  refine lv_aload_n hx hb dX11_deepest_6 rfl (lv_at hl 1 rfl) ?_
  refine va_get (D := (dC, dI)) (ci := 11) (v := .ref (a 31)) (C := RX11) (T := TX11) (N := 11) hx hb hts i_X11_deepest_X11 hown hK hP 0 rfl rfl 6 (by decide) (hts _ m_X11_deepest_0) (fun _ h9 => h9) rfl dX11_deepest_7 ?_
  refine lv_iload_n hx hb dX11_deepest_10 rfl (lv_at hl 0 rfl) ?_
  refine tk_pi (va_runV (As := [.int 3]) (rest := []) ⟨hx, hb, hml, hown, hts⟩ (c_X7_obstacle l dC dI cy a g 3) (cwV 1 hts g_X11_deepest_X7_obstacle_239 rfl rfl rfl (by decide +kernel) ⟨Nat.le_of_ble_eq_true rfl, Nat.le_of_ble_eq_true rfl⟩) (pv_pp hC hP (ci := 7) (q0 := 31) rfl rfl) rfl rfl hl.1 rfl (lv_room (Nat.le_of_ble_eq_true rfl)) dX11_deepest_11 ⟨Nat.le_of_ble_eq_true rfl, Nat.le_of_ble_eq_true rfl⟩) hP hS (fun r_ H locs hw hP hS => ?_)
  subst hw
  refine lv_if_ne (tgt := 19) hx hb dX11_deepest_14 (by decide) (fun _ => ?_) (fun c9_ => absurd c9_ (by decide))
  refine lv_iinc (v := 2) (lv' := [(1, .int 2), (0, .ref (a 0))]) hx hb dX11_deepest_19 hl (k := 0) rfl (by decide) (by decide) rfl (fun ls hl => ?_)
  refine lv_goto (tgt := 2) hx hb dX11_deepest_22 (by decide) ?_
  refine lv_iload_n hx hb dX11_deepest_2 rfl (lv_at hl 0 rfl) ?_
  refine lv_if_le (tgt := 25) hx hb dX11_deepest_3 (by decide) (fun c9_ => absurd c9_ (by decide)) (fun _ => ?_)
  refine lv_aload_n hx hb dX11_deepest_6 rfl (lv_at hl 1 rfl) ?_
  refine va_get (D := (dC, dI)) (ci := 11) (v := .ref (a 31)) (C := RX11) (T := TX11) (N := 11) hx hb hts i_X11_deepest_X11 hown hK hP 0 rfl rfl 6 (by decide) (hts _ m_X11_deepest_0) (fun _ h9 => h9) rfl dX11_deepest_7 ?_
  refine lv_iload_n hx hb dX11_deepest_10 rfl (lv_at hl 0 rfl) ?_
  refine tk_pi (va_runV (As := [.int 2]) (rest := []) ⟨hx, hb, hml, hown, hts⟩ (c_X7_obstacle l dC dI cy a g 2) (cwV 1 hts g_X11_deepest_X7_obstacle_239 rfl rfl rfl (by decide +kernel) ⟨Nat.le_of_ble_eq_true rfl, Nat.le_of_ble_eq_true rfl⟩) (pv_pp hC hP (ci := 7) (q0 := 31) rfl rfl) rfl rfl hl.1 rfl (lv_room (Nat.le_of_ble_eq_true rfl)) dX11_deepest_11 ⟨Nat.le_of_ble_eq_true rfl, Nat.le_of_ble_eq_true rfl⟩) hP hS (fun r_ H locs hw hP hS => ?_)
  subst hw
  refine lv_if_ne (tgt := 19) hx hb dX11_deepest_14 (by decide) (fun _ => ?_) (fun c9_ => absurd c9_ (by decide))
  refine lv_iinc (v := 1) (lv' := [(1, .int 1), (0, .ref (a 0))]) hx hb dX11_deepest_19 hl (k := 0) rfl (by decide) (by decide) rfl (fun ls hl => ?_)
  refine lv_goto (tgt := 2) hx hb dX11_deepest_22 (by decide) ?_
  refine lv_iload_n hx hb dX11_deepest_2 rfl (lv_at hl 0 rfl) ?_
  refine lv_if_le (tgt := 25) hx hb dX11_deepest_3 (by decide) (fun c9_ => absurd c9_ (by decide)) (fun _ => ?_)
  refine lv_aload_n hx hb dX11_deepest_6 rfl (lv_at hl 1 rfl) ?_
  refine va_get (D := (dC, dI)) (ci := 11) (v := .ref (a 31)) (C := RX11) (T := TX11) (N := 11) hx hb hts i_X11_deepest_X11 hown hK hP 0 rfl rfl 6 (by decide) (hts _ m_X11_deepest_0) (fun _ h9 => h9) rfl dX11_deepest_7 ?_
  refine lv_iload_n hx hb dX11_deepest_10 rfl (lv_at hl 0 rfl) ?_
  refine tk_pi (va_runV (As := [.int 1]) (rest := []) ⟨hx, hb, hml, hown, hts⟩ (c_X7_obstacle l dC dI cy a g 1) (cwV 1 hts g_X11_deepest_X7_obstacle_239 rfl rfl rfl (by decide +kernel) ⟨Nat.le_of_ble_eq_true rfl, Nat.le_of_ble_eq_true rfl⟩) (pv_pp hC hP (ci := 7) (q0 := 31) rfl rfl) rfl rfl hl.1 rfl (lv_room (Nat.le_of_ble_eq_true rfl)) dX11_deepest_11 ⟨Nat.le_of_ble_eq_true rfl, Nat.le_of_ble_eq_true rfl⟩) hP hS (fun r_ H locs hw hP hS => ?_)
  subst hw
  refine lv_if_ne (tgt := 19) hx hb dX11_deepest_14 (by decide) (fun _ => ?_) (fun c9_ => absurd c9_ (by decide))
  refine lv_iinc (v := 0) (lv' := [(1, .int 0), (0, .ref (a 0))]) hx hb dX11_deepest_19 hl (k := 0) rfl (by decide) (by decide) rfl (fun ls hl => ?_)
  refine lv_goto (tgt := 2) hx hb dX11_deepest_22 (by decide) ?_
  refine lv_iload_n hx hb dX11_deepest_2 rfl (lv_at hl 0 rfl) ?_
  refine lv_if_le (tgt := 25) hx hb dX11_deepest_3 (by decide) (fun _ => ?_) (fun c9_ => absurd (by decide) c9_)
  refine lv_iconst (v := 0) hx hb dX11_deepest_25 (by decide) ?_
  exact W.iret (v := 0) hx hb hr (fun t ht hW => ⟨⟨0, (), rfl, rfl, trivial⟩, hS.F ht⟩) hS.2.2 dX11_deepest_26

theorem dX11_why_0 : decode cX11_why 0 = .ok (.iload_n 1, 1) := by decide +kernel
theorem dX11_why_1 : decode cX11_why 1 = .ok (.iconst 1, 1) := by decide +kernel
theorem dX11_why_2 : decode cX11_why 2 = .ok (.if_icmp .lt 8, 3) := by decide +kernel
theorem dX11_why_5 : decode cX11_why 5 = .ok (.iload_n 1, 1) := by decide +kernel
theorem dX11_why_6 : decode cX11_why 6 = .ok (.iconst 4, 1) := by decide +kernel
theorem dX11_why_7 : decode cX11_why 7 = .ok (.if_icmp .le 7, 3) := by decide +kernel
theorem dX11_why_10 : decode cX11_why 10 = .ok (.iconst (-1), 1) := by decide +kernel
theorem dX11_why_11 : decode cX11_why 11 = .ok (.goto 11, 3) := by decide +kernel
theorem dX11_why_14 : decode cX11_why 14 = .ok (.aload_n 0, 1) := by decide +kernel
theorem dX11_why_15 : decode cX11_why 15 = .ok (.getfield 58, 3) := by decide +kernel
theorem dX11_why_18 : decode cX11_why 18 = .ok (.iload_n 1, 1) := by decide +kernel
theorem dX11_why_19 : decode cX11_why 19 = .ok (.invokevirtual 239, 3) := by decide +kernel
theorem dX11_why_22 : decode cX11_why 22 = .ok (.ireturn, 1) := by decide +kernel
def v_X11_why : List Cond := .code yX11_why cX11_why 2 (some .int) :: ([.fieldLink RX11 58 "RestBoard" "rests" "LRestBoard$Rests;", .methodLink RX11 239 yX7_obstacle, .instanceMethod yX7_obstacle, .selects RX7 yX7_obstacle yX7_obstacle, .initialized RX7, .code yX7_obstacle cX7_obstacle 4 (some .int), .methodLink RX7 31 yX7_numberOf, .instanceMethod yX7_numberOf, .selects RX7 yX7_numberOf yX7_numberOf, .code yX7_numberOf cX7_numberOf 2 (some .int), .fieldLink RX7 15 "RestBoard$Rests" "tree" "LRestBoard$Tree;", .methodLink RX7 73 yX10_own, .instanceMethod yX10_own, .selects RX10 yX10_own yX10_own, .initialized RX10, .code yX10_own cX10_own 5 (some .int), .fieldLink RX10 17 "RestBoard$Tree" "now" "LRestBoard$State;", .fieldLink RX10 26 "RestBoard$State" "size" "I", .methodLink RX10 49 yX10_child, .instanceMethod yX10_child, .selects RX10 yX10_child yX10_child, .code yX10_child cX10_child 5 (some .int)] ++ wsX110 ++ wsX70 ++ wsX100 ++ wsX80)
theorem m_X11_why_0 : (.fieldLink RX11 58 "RestBoard" "rests" "LRestBoard$Rests;" : Cond) ∈ v_X11_why := List.mem_of_getElem? (i := 1) (by decide +kernel)
theorem i_X11_why_X11 : ∀ w ∈ u_ws RX11 TX11 11, w ∈ v_X11_why := fun w h => List.mem_cons_of_mem _ (List.mem_append_left _ (List.mem_append_left _ (List.mem_append_left _ (List.mem_append_right _ h))))
set_option maxRecDepth 100000 in
theorem gg_X11_why_X7_obstacle_239 : GoodIn v_X11_why v_X7_obstacle := goodIn_r _ [6, 7, 8, 9, 5, 10, 11, 12, 13, 14, 15, 16, 17, 18, 19, 20, 21, 22, 34, 35, 36, 37, 38, 39, 40, 41, 42, 43, 44, 45, 46, 47, 48, 49, 50, 51, 52, 53, 54, 55, 56, 57] (by decide +kernel) (by decide +kernel)
set_option maxRecDepth 100000 in
theorem g_X11_why_X7_obstacle_239 : GoodIn v_X11_why (wsV RX11 239 RX7 yX7_obstacle v_X7_obstacle) := goodIn_app (goodIn_r _ [2, 3, 4, 5] (by decide +kernel) (by decide +kernel)) gg_X11_why_X7_obstacle_239
set_option maxHeartbeats 4000000 in
set_option maxRecDepth 100000 in
theorem c_X11_why (l : Launch) (dC : Nat → ClassId) (dI : Nat → Nat → Nat) (cy : Nat → ClassId) (a : Nat → Nat) (g : Nat → Nat → Option Nat) (p0 : Int32) : Met l yX11_why v_X11_why ({ frames := 4, cells := 0, slots := 0, locals := 92 }) (va_Pc [.ref (a 0), .int p0] (pp dC dI cy (fw a cy g))) (va_Qi (fun (r : Int32) (_ : Unit) => ((p0 < 1) ∧ r = (-1)) ∨ ((¬ p0 < 1) ∧ (p0 ≤ 4) ∧ r = 1) ∨ ((¬ p0 < 1) ∧ (¬ p0 ≤ 4) ∧ r = (-1))) (fun _ _ => True) (fun _ => False)) 0 0 (fun _ => False) := by
  refine Met.ofW (cc := cX11_why) (maxL := 2) (ret := (some .int)) (by decide) rfl ?_
  intro p e s m args below meth c s₁ B hml hv
  obtain ⟨rfl, hP, hC⟩ := hv
  have hK := hC.1
  have hx := B.exec
  have hb := B.bytes
  have hr := B.returns
  have hts := atoms_spec (ws := v_X11_why) B.pre
  have hown : s.vm.findClass RX11 = some m.cls := findClass_of_methodNamed B.named
  have hlocks := B.notSynchronized
  have hS : va_S (fun _ => False) s.heap s.heap [] := va_S.rf
  have hl := lv_entry ([.ref (a 0), .int p0]) (n := 2) (Nat.le_of_ble_eq_true rfl)
  rw [lg_entry_eq]
  generalize (lg_sl ([.ref (a 0), .int p0]) ++ List.replicate (2 - (lg_sl ([.ref (a 0), .int p0])).length) Slot.unset).toArray = ls at hl ⊢
  have hl : lv_has ls 2 [(0, .ref (a 0)), (1, .int p0)] := hl
  refine lv_iload_n hx hb dX11_why_0 rfl (lv_at hl 1 rfl) ?_
  refine lv_iconst (v := 1) hx hb dX11_why_1 (by decide) ?_
  refine lv_icmp_lt (tgt := 10) hx hb dX11_why_2 (by decide) (fun c1_ => ?_) (fun c1_ => ?_)
  · skip
    refine lv_iconst (v := (-1)) hx hb dX11_why_10 (by decide) ?_
    refine lv_goto (tgt := 22) hx hb dX11_why_11 (by decide) ?_
    exact W.iret (v := (-1)) hx hb hr (fun t ht hW => ⟨⟨(-1), (), rfl, Or.inl (⟨c1_, rfl⟩), trivial⟩, hS.F ht⟩) hS.2.2 dX11_why_22
  · skip
    refine lv_iload_n hx hb dX11_why_5 rfl (lv_at hl 1 rfl) ?_
    refine lv_iconst (v := 4) hx hb dX11_why_6 (by decide) ?_
    refine lv_icmp_le (tgt := 14) hx hb dX11_why_7 (by decide) (fun c2_ => ?_) (fun c2_ => ?_)
    · skip
      refine lv_aload_n hx hb dX11_why_14 rfl (lv_at hl 0 rfl) ?_
      refine va_get (D := (dC, dI)) (ci := 11) (v := .ref (a 31)) (C := RX11) (T := TX11) (N := 11) hx hb hts i_X11_why_X11 hown hK hP 0 rfl rfl 6 (by decide) (hts _ m_X11_why_0) (fun _ h9 => h9) rfl dX11_why_15 ?_
      refine lv_iload_n hx hb dX11_why_18 rfl (lv_at hl 1 rfl) ?_
      refine tk_pi (va_runV (As := [.int p0]) (rest := []) ⟨hx, hb, hml, hown, hts⟩ (c_X7_obstacle l dC dI cy a g p0) (cwV 1 hts g_X11_why_X7_obstacle_239 rfl rfl rfl (by decide +kernel) ⟨Nat.le_of_ble_eq_true rfl, Nat.le_of_ble_eq_true rfl⟩) (pv_pp hC hP (ci := 7) (q0 := 31) rfl rfl) rfl rfl hl.1 rfl (lv_room (Nat.le_of_ble_eq_true rfl)) dX11_why_19 ⟨Nat.le_of_ble_eq_true rfl, Nat.le_of_ble_eq_true rfl⟩) hP hS (fun r_ H locs hw hP hS => ?_)
      subst hw
      exact W.iret (v := 1) hx hb hr (fun t ht hW => ⟨⟨1, (), rfl, Or.inr (Or.inl (⟨c1_, c2_, rfl⟩)), trivial⟩, hS.F ht⟩) hS.2.2 dX11_why_22
    · skip
      refine lv_iconst (v := (-1)) hx hb dX11_why_10 (by decide) ?_
      refine lv_goto (tgt := 22) hx hb dX11_why_11 (by decide) ?_
      exact W.iret (v := (-1)) hx hb hr (fun t ht hW => ⟨⟨(-1), (), rfl, Or.inr (Or.inr (⟨c1_, c2_, rfl⟩)), trivial⟩, hS.F ht⟩) hS.2.2 dX11_why_22

theorem dX11_order_0 : decode cX11_order 0 = .ok (.aload_n 0, 1) := by decide +kernel
theorem dX11_order_1 : decode cX11_order 1 = .ok (.getfield 58, 3) := by decide +kernel
theorem dX11_order_4 : decode cX11_order 4 = .ok (.iload_n 1, 1) := by decide +kernel
theorem dX11_order_5 : decode cX11_order 5 = .ok (.invokevirtual 242, 3) := by decide +kernel
theorem dX11_order_8 : decode cX11_order 8 = .ok (.ireturn, 1) := by decide +kernel
def v_X11_order : List Cond := .code yX11_order cX11_order 2 (some .int) :: ([.fieldLink RX11 58 "RestBoard" "rests" "LRestBoard$Rests;", .methodLink RX11 242 yX7_inTurn, .instanceMethod yX7_inTurn, .selects RX7 yX7_inTurn yX7_inTurn, .initialized RX7, .code yX7_inTurn cX7_inTurn 3 (some .int), .methodLink RX7 77 yX7_sortDevices, .instanceMethod yX7_sortDevices, .selects RX7 yX7_sortDevices yX7_sortDevices, .code yX7_sortDevices cX7_sortDevices 4 (some .int), .methodLink RX7 81 yX7_mostAbove, .instanceMethod yX7_mostAbove, .selects RX7 yX7_mostAbove yX7_mostAbove, .code yX7_mostAbove cX7_mostAbove 3 (some .int), .fieldLink RX7 19 "RestBoard$Rests" "now" "LRestBoard$State;", .fieldLink RX7 35 "RestBoard$State" "size" "I", .fieldLink RX7 15 "RestBoard$Rests" "tree" "LRestBoard$Tree;", .fieldLink RX7 59 "RestBoard$Tree" "nodes" "[LRestBoard$Node;", .fieldLink RX7 87 "RestBoard$Node" "above" "I", .methodLink RX7 90 Lib.Math.max.name, .static Lib.Math.max.name, .initialized "java/lang/Math", .code Lib.Math.max.name Lib.Math.max.code 2 (some .int)] ++ wsX110 ++ wsX70 ++ wsX80 ++ wsX100 ++ wsX40)
theorem m_X11_order_0 : (.fieldLink RX11 58 "RestBoard" "rests" "LRestBoard$Rests;" : Cond) ∈ v_X11_order := List.mem_of_getElem? (i := 1) (by decide +kernel)
theorem i_X11_order_X11 : ∀ w ∈ u_ws RX11 TX11 11, w ∈ v_X11_order := fun w h => List.mem_cons_of_mem _ (List.mem_append_left _ (List.mem_append_left _ (List.mem_append_left _ (List.mem_append_left _ (List.mem_append_right _ h)))))
set_option maxRecDepth 100000 in
theorem gg_X11_order_X7_inTurn_242 : GoodIn v_X11_order v_X7_inTurn := goodIn_r _ [6, 7, 8, 9, 5, 10, 11, 12, 13, 14, 15, 16, 17, 18, 19, 20, 21, 22, 23, 35, 36, 37, 38, 39, 40, 41, 42, 43, 44, 45, 46, 47, 48, 49, 50, 51, 52, 53, 54, 55, 56, 57, 58, 59, 60, 61, 62, 63, 64, 65, 66, 67, 68, 69, 70, 71, 72] (by decide +kernel) (by decide +kernel)
set_option maxRecDepth 100000 in
theorem g_X11_order_X7_inTurn_242 : GoodIn v_X11_order (wsV RX11 242 RX7 yX7_inTurn v_X7_inTurn) := goodIn_app (goodIn_r _ [2, 3, 4, 5] (by decide +kernel) (by decide +kernel)) gg_X11_order_X7_inTurn_242
set_option maxHeartbeats 4000000 in
set_option maxRecDepth 100000 in
theorem c_X11_order (l : Launch) (dC : Nat → ClassId) (dI : Nat → Nat → Nat) (cy : Nat → ClassId) (a : Nat → Nat) (g : Nat → Nat → Option Nat) (p0 : Int32) : Met l yX11_order v_X11_order ({ frames := 4, cells := 0, slots := 0, locals := 81 }) (va_Pc [.ref (a 0), .int p0] (pp dC dI cy (fw a cy g))) (va_Qi (fun (r : Int32) (_ : Unit) => ((p0 < 0) ∧ r = (-1)) ∨ ((¬ p0 < 0) ∧ ((0 : Int32) ≤ p0) ∧ r = (-1))) (fun _ _ => True) (fun _ => False)) 0 0 (fun _ => False) := by
  refine Met.ofW (cc := cX11_order) (maxL := 2) (ret := (some .int)) (by decide) rfl ?_
  intro p e s m args below meth c s₁ B hml hv
  obtain ⟨rfl, hP, hC⟩ := hv
  have hK := hC.1
  have hx := B.exec
  have hb := B.bytes
  have hr := B.returns
  have hts := atoms_spec (ws := v_X11_order) B.pre
  have hown : s.vm.findClass RX11 = some m.cls := findClass_of_methodNamed B.named
  have hlocks := B.notSynchronized
  have hS : va_S (fun _ => False) s.heap s.heap [] := va_S.rf
  have hl := lv_entry ([.ref (a 0), .int p0]) (n := 2) (Nat.le_of_ble_eq_true rfl)
  rw [lg_entry_eq]
  generalize (lg_sl ([.ref (a 0), .int p0]) ++ List.replicate (2 - (lg_sl ([.ref (a 0), .int p0])).length) Slot.unset).toArray = ls at hl ⊢
  have hl : lv_has ls 2 [(0, .ref (a 0)), (1, .int p0)] := hl
  refine lv_aload_n hx hb dX11_order_0 rfl (lv_at hl 0 rfl) ?_
  refine va_get (D := (dC, dI)) (ci := 11) (v := .ref (a 31)) (C := RX11) (T := TX11) (N := 11) hx hb hts i_X11_order_X11 hown hK hP 0 rfl rfl 6 (by decide) (hts _ m_X11_order_0) (fun _ h9 => h9) rfl dX11_order_1 ?_
  refine lv_iload_n hx hb dX11_order_4 rfl (lv_at hl 1 rfl) ?_
  refine tk_pi (va_runV (As := [.int p0]) (rest := []) ⟨hx, hb, hml, hown, hts⟩ (c_X7_inTurn l dC dI cy a g p0) (cwV 1 hts g_X11_order_X7_inTurn_242 rfl rfl rfl (by decide +kernel) ⟨Nat.le_of_ble_eq_true rfl, Nat.le_of_ble_eq_true rfl⟩) (pv_pp hC hP (ci := 7) (q0 := 31) rfl rfl) rfl rfl hl.1 rfl (lv_room (Nat.le_of_ble_eq_true rfl)) dX11_order_5 ⟨Nat.le_of_ble_eq_true rfl, Nat.le_of_ble_eq_true rfl⟩) hP hS (fun r_ H locs hw hP hS => ?_)
  rcases hw with ⟨c1_, rfl⟩ | ⟨c2_, c3_, rfl⟩
  · skip
    exact W.iret (v := (-1)) hx hb hr (fun t ht hW => ⟨⟨(-1), (), rfl, Or.inl (⟨c1_, rfl⟩), trivial⟩, hS.F ht⟩) hS.2.2 dX11_order_8
  · skip
    exact W.iret (v := (-1)) hx hb hr (fun t ht hW => ⟨⟨(-1), (), rfl, Or.inr (⟨c2_, c3_, rfl⟩), trivial⟩, hS.F ht⟩) hS.2.2 dX11_order_8

theorem dX11_would_0 : decode cX11_would 0 = .ok (.aload_n 0, 1) := by decide +kernel
theorem dX11_would_1 : decode cX11_would 1 = .ok (.iload_n 1, 1) := by decide +kernel
theorem dX11_would_2 : decode cX11_would 2 = .ok (.invokevirtual 172, 3) := by decide +kernel
theorem dX11_would_5 : decode cX11_would 5 = .ok (.istore_n 2, 1) := by decide +kernel
theorem dX11_would_6 : decode cX11_would 6 = .ok (.iload_n 2, 1) := by decide +kernel
theorem dX11_would_7 : decode cX11_would 7 = .ok (.ifCond .eq 5, 3) := by decide +kernel
theorem dX11_would_10 : decode cX11_would 10 = .ok (.iload_n 2, 1) := by decide +kernel
theorem dX11_would_11 : decode cX11_would 11 = .ok (.ireturn, 1) := by decide +kernel
def v_X11_would : List Cond := .code yX11_would cX11_would 4 (some .int) :: ([.methodLink RX11 172 yX11_refusalToRest, .instanceMethod yX11_refusalToRest, .selects RX11 yX11_refusalToRest yX11_refusalToRest, .initialized RX11, .code yX11_refusalToRest cX11_refusalToRest 2 (some .int), .fieldLink RX11 10 "RestBoard" "now" "LRestBoard$State;", .fieldLink RX11 92 "RestBoard$State" "resting" "I", .fieldLink RX11 58 "RestBoard" "rests" "LRestBoard$Rests;", .methodLink RX11 239 yX7_obstacle, .instanceMethod yX7_obstacle, .selects RX7 yX7_obstacle yX7_obstacle, .initialized RX7, .code yX7_obstacle cX7_obstacle 4 (some .int), .methodLink RX7 31 yX7_numberOf, .instanceMethod yX7_numberOf, .selects RX7 yX7_numberOf yX7_numberOf, .code yX7_numberOf cX7_numberOf 2 (some .int), .fieldLink RX7 15 "RestBoard$Rests" "tree" "LRestBoard$Tree;", .methodLink RX7 73 yX10_own, .instanceMethod yX10_own, .selects RX10 yX10_own yX10_own, .initialized RX10, .code yX10_own cX10_own 5 (some .int), .fieldLink RX10 17 "RestBoard$Tree" "now" "LRestBoard$State;", .fieldLink RX10 26 "RestBoard$State" "size" "I", .methodLink RX10 49 yX10_child, .instanceMethod yX10_child, .selects RX10 yX10_child yX10_child, .code yX10_child cX10_child 5 (some .int)] ++ wsX110 ++ wsX80 ++ wsX70 ++ wsX100)
set_option maxRecDepth 100000 in
theorem gg_X11_would_X11_refusalToRest_172 : GoodIn v_X11_would v_X11_refusalToRest := goodIn_r _ [5, 6, 7, 8, 9, 10, 11, 12, 13, 14, 15, 16, 17, 18, 19, 20, 21, 22, 23, 24, 25, 26, 27, 28, 29, 30, 31, 32, 33, 34, 35, 36, 37, 38, 39, 40, 41, 42, 43, 44, 45, 46, 47, 48, 49, 50, 51, 52, 53, 54, 55, 56, 57, 58, 59, 60, 61, 62, 63, 64] (by decide +kernel) (by decide +kernel)
set_option maxRecDepth 100000 in
theorem g_X11_would_X11_refusalToRest_172 : GoodIn v_X11_would (wsV RX11 172 RX11 yX11_refusalToRest v_X11_refusalToRest) := goodIn_app (goodIn_r _ [1, 2, 3, 4] (by decide +kernel) (by decide +kernel)) gg_X11_would_X11_refusalToRest_172
set_option maxHeartbeats 4000000 in
set_option maxRecDepth 100000 in
theorem c_X11_would (l : Launch) (dC : Nat → ClassId) (dI : Nat → Nat → Nat) (cy : Nat → ClassId) (a : Nat → Nat) (g : Nat → Nat → Option Nat) (p0 : Int32) : Met l yX11_would v_X11_would ({ frames := 5, cells := 0, slots := 0, locals := 113 }) (va_Pc [.ref (a 0), .int p0] (pp dC dI cy (fw a cy g))) (va_Qi (fun (r : Int32) (_ : Unit) => ((p0 < 1) ∧ r = (-1)) ∨ ((¬ p0 < 1) ∧ (p0 ≤ 4) ∧ r = (-4)) ∨ ((¬ p0 < 1) ∧ (¬ p0 ≤ 4) ∧ r = (-1))) (fun _ _ => True) (fun _ => False)) 0 0 (fun _ => False) := by
  refine Met.ofW (cc := cX11_would) (maxL := 4) (ret := (some .int)) (by decide) rfl ?_
  intro p e s m args below meth c s₁ B hml hv
  obtain ⟨rfl, hP, hC⟩ := hv
  have hK := hC.1
  have hx := B.exec
  have hb := B.bytes
  have hr := B.returns
  have hts := atoms_spec (ws := v_X11_would) B.pre
  have hown : s.vm.findClass RX11 = some m.cls := findClass_of_methodNamed B.named
  have hlocks := B.notSynchronized
  have hS : va_S (fun _ => False) s.heap s.heap [] := va_S.rf
  have hl := lv_entry ([.ref (a 0), .int p0]) (n := 4) (Nat.le_of_ble_eq_true rfl)
  rw [lg_entry_eq]
  generalize (lg_sl ([.ref (a 0), .int p0]) ++ List.replicate (4 - (lg_sl ([.ref (a 0), .int p0])).length) Slot.unset).toArray = ls at hl ⊢
  have hl : lv_has ls 4 [(0, .ref (a 0)), (1, .int p0)] := hl
  refine lv_aload_n hx hb dX11_would_0 rfl (lv_at hl 0 rfl) ?_
  refine lv_iload_n hx hb dX11_would_1 rfl (lv_at hl 1 rfl) ?_
  refine tk_pi (va_runV (As := [.int p0]) (rest := []) ⟨hx, hb, hml, hown, hts⟩ (c_X11_refusalToRest l dC dI cy a g p0) (cwV 1 hts g_X11_would_X11_refusalToRest_172 rfl rfl rfl (by decide +kernel) ⟨Nat.le_of_ble_eq_true rfl, Nat.le_of_ble_eq_true rfl⟩) (pv_pp hC hP (ci := 11) (q0 := 0) rfl rfl) rfl rfl hl.1 rfl (lv_room (Nat.le_of_ble_eq_true rfl)) dX11_would_2 ⟨Nat.le_of_ble_eq_true rfl, Nat.le_of_ble_eq_true rfl⟩) hP hS (fun r_ H locs hw hP hS => ?_)
  rcases hw with ⟨c1_, rfl⟩ | ⟨c2_, c3_, rfl⟩ | ⟨c4_, c5_, rfl⟩
  · skip
    refine lv_istore_n (lv' := [(2, .int (-1)), (0, .ref (a 0)), (1, .int p0)]) hx hb dX11_would_5 rfl hl (by decide) rfl (fun ls hl => ?_)
    refine lv_iload_n hx hb dX11_would_6 rfl (lv_at hl 0 rfl) ?_
    refine lv_if_eq (tgt := 12) hx hb dX11_would_7 (by decide) (fun c9_ => absurd c9_ (by decide)) (fun _ => ?_)
    refine lv_iload_n hx hb dX11_would_10 rfl (lv_at hl 0 rfl) ?_
    exact W.iret (v := (-1)) hx hb hr (fun t ht hW => ⟨⟨(-1), (), rfl, Or.inl (⟨c1_, rfl⟩), trivial⟩, hS.F ht⟩) hS.2.2 dX11_would_11
  · skip
    refine lv_istore_n (lv' := [(2, .int (-4)), (0, .ref (a 0)), (1, .int p0)]) hx hb dX11_would_5 rfl hl (by decide) rfl (fun ls hl => ?_)
    refine lv_iload_n hx hb dX11_would_6 rfl (lv_at hl 0 rfl) ?_
    refine lv_if_eq (tgt := 12) hx hb dX11_would_7 (by decide) (fun c9_ => absurd c9_ (by decide)) (fun _ => ?_)
    refine lv_iload_n hx hb dX11_would_10 rfl (lv_at hl 0 rfl) ?_
    exact W.iret (v := (-4)) hx hb hr (fun t ht hW => ⟨⟨(-4), (), rfl, Or.inr (Or.inl (⟨c2_, c3_, rfl⟩)), trivial⟩, hS.F ht⟩) hS.2.2 dX11_would_11
  · skip
    refine lv_istore_n (lv' := [(2, .int (-1)), (0, .ref (a 0)), (1, .int p0)]) hx hb dX11_would_5 rfl hl (by decide) rfl (fun ls hl => ?_)
    refine lv_iload_n hx hb dX11_would_6 rfl (lv_at hl 0 rfl) ?_
    refine lv_if_eq (tgt := 12) hx hb dX11_would_7 (by decide) (fun c9_ => absurd c9_ (by decide)) (fun _ => ?_)
    refine lv_iload_n hx hb dX11_would_10 rfl (lv_at hl 0 rfl) ?_
    exact W.iret (v := (-1)) hx hb hr (fun t ht hW => ⟨⟨(-1), (), rfl, Or.inr (Or.inr (⟨c4_, c5_, rfl⟩)), trivial⟩, hS.F ht⟩) hS.2.2 dX11_would_11

theorem dX11_tries_0 : decode cX11_tries 0 = .ok (.iload 5, 2) := by decide +kernel
theorem dX11_tries_2 : decode cX11_tries 2 = .ok (.ifCond .lt 9, 3) := by decide +kernel
theorem dX11_tries_5 : decode cX11_tries 5 = .ok (.iload 5, 2) := by decide +kernel
theorem dX11_tries_7 : decode cX11_tries 7 = .ok (.iconst 4, 1) := by decide +kernel
theorem dX11_tries_8 : decode cX11_tries 8 = .ok (.if_icmp .le 5, 3) := by decide +kernel
theorem dX11_tries_11 : decode cX11_tries 11 = .ok (.iconst (-1), 1) := by decide +kernel
theorem dX11_tries_12 : decode cX11_tries 12 = .ok (.ireturn, 1) := by decide +kernel
theorem dX11_tries_13 : decode cX11_tries 13 = .ok (.aload_n 0, 1) := by decide +kernel
theorem dX11_tries_14 : decode cX11_tries 14 = .ok (.iload_n 1, 1) := by decide +kernel
theorem dX11_tries_15 : decode cX11_tries 15 = .ok (.iload_n 2, 1) := by decide +kernel
theorem dX11_tries_16 : decode cX11_tries 16 = .ok (.iload_n 3, 1) := by decide +kernel
theorem dX11_tries_17 : decode cX11_tries 17 = .ok (.iload 4, 2) := by decide +kernel
theorem dX11_tries_19 : decode cX11_tries 19 = .ok (.invokevirtual 116, 3) := by decide +kernel
theorem dX11_tries_22 : decode cX11_tries 22 = .ok (.istore 6, 2) := by decide +kernel
theorem dX11_tries_24 : decode cX11_tries 24 = .ok (.iload 6, 2) := by decide +kernel
theorem dX11_tries_26 : decode cX11_tries 26 = .ok (.ifCond .eq 15, 3) := by decide +kernel
theorem dX11_tries_29 : decode cX11_tries 29 = .ok (.iload 5, 2) := by decide +kernel
theorem dX11_tries_31 : decode cX11_tries 31 = .ok (.ifCond .ne 8, 3) := by decide +kernel
theorem dX11_tries_34 : decode cX11_tries 34 = .ok (.iload 6, 2) := by decide +kernel
theorem dX11_tries_36 : decode cX11_tries 36 = .ok (.goto 4, 3) := by decide +kernel
theorem dX11_tries_39 : decode cX11_tries 39 = .ok (.iconst 0, 1) := by decide +kernel
theorem dX11_tries_40 : decode cX11_tries 40 = .ok (.ireturn, 1) := by decide +kernel
def v_X11_tries : List Cond := .code yX11_tries cX11_tries 9 (some .int) :: ([.methodLink RX11 116 yX11_refusalToRun, .instanceMethod yX11_refusalToRun, .selects RX11 yX11_refusalToRun yX11_refusalToRun, .initialized RX11, .code yX11_refusalToRun cX11_refusalToRun 5 (some .int), .fieldLink RX11 24 "RestBoard" "tree" "LRestBoard$Tree;", .methodLink RX11 123 yX11_isValue, .static yX11_isValue, .code yX11_isValue cX11_isValue 1 (some .boolean), .constant RX11 296 (65536), .methodLink RX11 85 yX10_is, .instanceMethod yX10_is, .selects RX10 yX10_is yX10_is, .initialized RX10, .code yX10_is cX10_is 3 (some .boolean), .fieldLink RX10 11 "RestBoard$Tree" "nodes" "[LRestBoard$Node;", .fieldLink RX10 36 "RestBoard$Node" "kind" "I", .methodLink RX10 32 yX10_has, .instanceMethod yX10_has, .selects RX10 yX10_has yX10_has, .code yX10_has cX10_has 2 (some .boolean), .fieldLink RX10 17 "RestBoard$Tree" "now" "LRestBoard$State;", .fieldLink RX10 26 "RestBoard$State" "size" "I"] ++ wsX110 ++ wsX100 ++ wsX40 ++ wsX80)
set_option maxRecDepth 100000 in
theorem gg_X11_tries_X11_refusalToRun_116 : GoodIn v_X11_tries v_X11_refusalToRun := goodIn_r _ [5, 6, 7, 8, 4, 9, 10, 11, 12, 13, 14, 15, 16, 17, 18, 19, 20, 21, 22, 23, 24, 25, 26, 27, 28, 29, 30, 31, 32, 33, 34, 35, 36, 37, 38, 39, 40, 41, 42, 43, 44, 45, 46, 47, 48, 49, 50, 51, 52, 53, 54, 55, 56, 57, 58, 59, 60, 61, 62, 63, 64, 65, 66, 67] (by decide +kernel) (by decide +kernel)
set_option maxRecDepth 100000 in
theorem g_X11_tries_X11_refusalToRun_116 : GoodIn v_X11_tries (wsV RX11 116 RX11 yX11_refusalToRun v_X11_refusalToRun) := goodIn_app (goodIn_r _ [1, 2, 3, 4] (by decide +kernel) (by decide +kernel)) gg_X11_tries_X11_refusalToRun_116
set_option maxHeartbeats 4000000 in
set_option maxRecDepth 100000 in
theorem c_X11_tries (l : Launch) (dC : Nat → ClassId) (dI : Nat → Nat → Nat) (cy : Nat → ClassId) (a : Nat → Nat) (g : Nat → Nat → Option Nat) (p0 p1 p2 p3 p4 : Int32) : Met l yX11_tries v_X11_tries ({ frames := 3, cells := 0, slots := 0, locals := 67 }) (va_Pc [.ref (a 0), .int p0, .int p1, .int p2, .int p3, .int p4] (pp dC dI cy (fw a cy g))) (va_Qi (fun (r : Int32) (_ : Unit) => ((p4 < 0) ∧ r = (-1)) ∨ ((¬ p4 < 0) ∧ (p4 ≤ 4) ∧ (p1 < 0) ∧ (¬ p4 = 0) ∧ r = 0) ∨ ((p1 < 0) ∧ (p4 = 0) ∧ r = (-1)) ∨ ((¬ p4 < 0) ∧ (p4 ≤ 4) ∧ (¬ p1 < 0) ∧ ((65536 : Int32) ≤ p1) ∧ (¬ p4 = 0) ∧ r = 0) ∨ ((¬ p1 < 0) ∧ ((65536 : Int32) ≤ p1) ∧ (p4 = 0) ∧ r = (-1)) ∨ ((¬ p4 < 0) ∧ (p4 ≤ 4) ∧ (¬ p1 < 0) ∧ (¬ (65536 : Int32) ≤ p1) ∧ (p2 < 0) ∧ (¬ p4 = 0) ∧ r = 0) ∨ ((¬ p1 < 0) ∧ (¬ (65536 : Int32) ≤ p1) ∧ (p2 < 0) ∧ (p4 = 0) ∧ r = (-1)) ∨ ((¬ p4 < 0) ∧ (p4 ≤ 4) ∧ (¬ p1 < 0) ∧ (¬ (65536 : Int32) ≤ p1) ∧ (¬ p2 < 0) ∧ ((65536 : Int32) ≤ p2) ∧ (¬ p4 = 0) ∧ r = 0) ∨ ((¬ p1 < 0) ∧ (¬ (65536 : Int32) ≤ p1) ∧ (¬ p2 < 0) ∧ ((65536 : Int32) ≤ p2) ∧ (p4 = 0) ∧ r = (-1)) ∨ ((¬ p4 < 0) ∧ (p4 ≤ 4) ∧ (¬ p1 < 0) ∧ (¬ (65536 : Int32) ≤ p1) ∧ (¬ p2 < 0) ∧ (¬ (65536 : Int32) ≤ p2) ∧ (p3 < 0) ∧ (¬ p4 = 0) ∧ r = 0) ∨ ((¬ p1 < 0) ∧ (¬ (65536 : Int32) ≤ p1) ∧ (¬ p2 < 0) ∧ (¬ (65536 : Int32) ≤ p2) ∧ (p3 < 0) ∧ (p4 = 0) ∧ r = (-1)) ∨ ((¬ p4 < 0) ∧ (p4 ≤ 4) ∧ (¬ p1 < 0) ∧ (¬ (65536 : Int32) ≤ p1) ∧ (¬ p2 < 0) ∧ (¬ (65536 : Int32) ≤ p2) ∧ (¬ p3 < 0) ∧ ((65536 : Int32) ≤ p3) ∧ (¬ p4 = 0) ∧ r = 0) ∨ ((¬ p1 < 0) ∧ (¬ (65536 : Int32) ≤ p1) ∧ (¬ p2 < 0) ∧ (¬ (65536 : Int32) ≤ p2) ∧ (¬ p3 < 0) ∧ ((65536 : Int32) ≤ p3) ∧ (p4 = 0) ∧ r = (-1)) ∨ ((¬ p4 < 0) ∧ (p4 ≤ 4) ∧ (¬ p1 < 0) ∧ (¬ (65536 : Int32) ≤ p1) ∧ (¬ p2 < 0) ∧ (¬ (65536 : Int32) ≤ p2) ∧ (¬ p3 < 0) ∧ (¬ (65536 : Int32) ≤ p3) ∧ (p0 < 0) ∧ (¬ p4 = 0) ∧ r = 0) ∨ ((¬ p1 < 0) ∧ (¬ (65536 : Int32) ≤ p1) ∧ (¬ p2 < 0) ∧ (¬ (65536 : Int32) ≤ p2) ∧ (¬ p3 < 0) ∧ (¬ (65536 : Int32) ≤ p3) ∧ (p0 < 0) ∧ (p4 = 0) ∧ r = (-2)) ∨ ((¬ p4 < 0) ∧ (p4 ≤ 4) ∧ (¬ p1 < 0) ∧ (¬ (65536 : Int32) ≤ p1) ∧ (¬ p2 < 0) ∧ (¬ (65536 : Int32) ≤ p2) ∧ (¬ p3 < 0) ∧ (¬ (65536 : Int32) ≤ p3) ∧ (¬ p0 < 0) ∧ ((1 : Int32) ≤ p0) ∧ (¬ p4 = 0) ∧ r = 0) ∨ ((¬ p1 < 0) ∧ (¬ (65536 : Int32) ≤ p1) ∧ (¬ p2 < 0) ∧ (¬ (65536 : Int32) ≤ p2) ∧ (¬ p3 < 0) ∧ (¬ (65536 : Int32) ≤ p3) ∧ (¬ p0 < 0) ∧ ((1 : Int32) ≤ p0) ∧ (p4 = 0) ∧ r = (-2)) ∨ ((¬ p4 < 0) ∧ (p4 ≤ 4) ∧ (¬ p1 < 0) ∧ (¬ (65536 : Int32) ≤ p1) ∧ (¬ p2 < 0) ∧ (¬ (65536 : Int32) ≤ p2) ∧ (¬ p3 < 0) ∧ (¬ (65536 : Int32) ≤ p3) ∧ (p0 = 0) ∧ (¬ p4 = 0) ∧ r = 0) ∨ ((¬ p1 < 0) ∧ (¬ (65536 : Int32) ≤ p1) ∧ (¬ p2 < 0) ∧ (¬ (65536 : Int32) ≤ p2) ∧ (¬ p3 < 0) ∧ (¬ (65536 : Int32) ≤ p3) ∧ (p0 = 0) ∧ (p4 = 0) ∧ r = (-2)) ∨ ((¬ p4 < 0) ∧ (¬ p4 ≤ 4) ∧ r = (-1))) (fun _ _ => True) (fun _ => False)) 0 0 (fun _ => False) := by
  refine Met.ofW (cc := cX11_tries) (maxL := 9) (ret := (some .int)) (by decide) rfl ?_
  intro p e s m args below meth c s₁ B hml hv
  obtain ⟨rfl, hP, hC⟩ := hv
  have hK := hC.1
  have hx := B.exec
  have hb := B.bytes
  have hr := B.returns
  have hts := atoms_spec (ws := v_X11_tries) B.pre
  have hown : s.vm.findClass RX11 = some m.cls := findClass_of_methodNamed B.named
  have hlocks := B.notSynchronized
  have hS : va_S (fun _ => False) s.heap s.heap [] := va_S.rf
  have hl := lv_entry ([.ref (a 0), .int p0, .int p1, .int p2, .int p3, .int p4]) (n := 9) (Nat.le_of_ble_eq_true rfl)
  rw [lg_entry_eq]
  generalize (lg_sl ([.ref (a 0), .int p0, .int p1, .int p2, .int p3, .int p4]) ++ List.replicate (9 - (lg_sl ([.ref (a 0), .int p0, .int p1, .int p2, .int p3, .int p4])).length) Slot.unset).toArray = ls at hl ⊢
  have hl : lv_has ls 9 [(0, .ref (a 0)), (1, .int p0), (2, .int p1), (3, .int p2), (4, .int p3), (5, .int p4)] := hl
  refine lv_iload hx hb dX11_tries_0 (lv_at hl 5 rfl) ?_
  refine lv_if_lt (tgt := 11) hx hb dX11_tries_2 (by decide) (fun c1_ => ?_) (fun c1_ => ?_)
  · skip
    refine lv_iconst (v := (-1)) hx hb dX11_tries_11 (by decide) ?_
    exact W.iret (v := (-1)) hx hb hr (fun t ht hW => ⟨⟨(-1), (), rfl, Or.inl (⟨c1_, rfl⟩), trivial⟩, hS.F ht⟩) hS.2.2 dX11_tries_12
  · skip
    refine lv_iload hx hb dX11_tries_5 (lv_at hl 5 rfl) ?_
    refine lv_iconst (v := 4) hx hb dX11_tries_7 (by decide) ?_
    refine lv_icmp_le (tgt := 13) hx hb dX11_tries_8 (by decide) (fun c2_ => ?_) (fun c2_ => ?_)
    · skip
      refine lv_aload_n hx hb dX11_tries_13 rfl (lv_at hl 0 rfl) ?_
      refine lv_iload_n hx hb dX11_tries_14 rfl (lv_at hl 1 rfl) ?_
      refine lv_iload_n hx hb dX11_tries_15 rfl (lv_at hl 2 rfl) ?_
      refine lv_iload_n hx hb dX11_tries_16 rfl (lv_at hl 3 rfl) ?_
      refine lv_iload hx hb dX11_tries_17 (lv_at hl 4 rfl) ?_
      refine tk_pi (va_runV (As := [.int p0, .int p1, .int p2, .int p3]) (rest := []) ⟨hx, hb, hml, hown, hts⟩ (c_X11_refusalToRun l dC dI cy a g p0 p1 p2 p3) (cwV 4 hts g_X11_tries_X11_refusalToRun_116 rfl rfl rfl (by decide +kernel) ⟨Nat.le_of_ble_eq_true rfl, Nat.le_of_ble_eq_true rfl⟩) (pv_pp hC hP (ci := 11) (q0 := 0) rfl rfl) rfl rfl hl.1 rfl (lv_room (Nat.le_of_ble_eq_true rfl)) dX11_tries_19 ⟨Nat.le_of_ble_eq_true rfl, Nat.le_of_ble_eq_true rfl⟩) hP hS (fun r_ H locs hw hP hS => ?_)
      rcases hw with ⟨c3_, rfl⟩ | ⟨c4_, c5_, rfl⟩ | ⟨c6_, c7_, c8_, rfl⟩ | ⟨c9_, c10_, c11_, c12_, rfl⟩ | ⟨c13_, c14_, c15_, c16_, c17_, rfl⟩ | ⟨c18_, c19_, c20_, c21_, c22_, c23_, rfl⟩ | ⟨c24_, c25_, c26_, c27_, c28_, c29_, c30_, rfl⟩ | ⟨c31_, c32_, c33_, c34_, c35_, c36_, c37_, c38_, rfl⟩ | ⟨c39_, c40_, c41_, c42_, c43_, c44_, c45_, rfl⟩
      · skip
        refine lv_istore (lv' := [(6, .int (-1)), (0, .ref (a 0)), (1, .int p0), (2, .int p1), (3, .int p2), (4, .int p3), (5, .int p4)]) hx hb dX11_tries_22 hl (by decide) rfl (fun ls hl => ?_)
        refine lv_iload hx hb dX11_tries_24 (lv_at hl 0 rfl) ?_
        refine lv_if_eq (tgt := 41) hx hb dX11_tries_26 (by decide) (fun c9_ => absurd c9_ (by decide)) (fun _ => ?_)
        refine lv_iload hx hb dX11_tries_29 (lv_at hl 6 rfl) ?_
        refine lv_if_ne (tgt := 39) hx hb dX11_tries_31 (by decide) (fun c46_ => ?_) (fun c46_ => ?_)
        · skip
          refine lv_iconst (v := 0) hx hb dX11_tries_39 (by decide) ?_
          exact W.iret (v := 0) hx hb hr (fun t ht hW => ⟨⟨0, (), rfl, Or.inr (Or.inl (⟨c1_, c2_, c3_, c46_, rfl⟩)), trivial⟩, hS.F ht⟩) hS.2.2 dX11_tries_40
        · skip
          subst c46_
          refine lv_iload hx hb dX11_tries_34 (lv_at hl 0 rfl) ?_
          refine lv_goto (tgt := 40) hx hb dX11_tries_36 (by decide) ?_
          exact W.iret (v := (-1)) hx hb hr (fun t ht hW => ⟨⟨(-1), (), rfl, Or.inr (Or.inr (Or.inl (⟨c3_, rfl, rfl⟩))), trivial⟩, hS.F ht⟩) hS.2.2 dX11_tries_40
      · skip
        refine lv_istore (lv' := [(6, .int (-1)), (0, .ref (a 0)), (1, .int p0), (2, .int p1), (3, .int p2), (4, .int p3), (5, .int p4)]) hx hb dX11_tries_22 hl (by decide) rfl (fun ls hl => ?_)
        refine lv_iload hx hb dX11_tries_24 (lv_at hl 0 rfl) ?_
        refine lv_if_eq (tgt := 41) hx hb dX11_tries_26 (by decide) (fun c9_ => absurd c9_ (by decide)) (fun _ => ?_)
        refine lv_iload hx hb dX11_tries_29 (lv_at hl 6 rfl) ?_
        refine lv_if_ne (tgt := 39) hx hb dX11_tries_31 (by decide) (fun c47_ => ?_) (fun c47_ => ?_)
        · skip
          refine lv_iconst (v := 0) hx hb dX11_tries_39 (by decide) ?_
          exact W.iret (v := 0) hx hb hr (fun t ht hW => ⟨⟨0, (), rfl, Or.inr (Or.inr (Or.inr (Or.inl (⟨c1_, c2_, c4_, c5_, c47_, rfl⟩)))), trivial⟩, hS.F ht⟩) hS.2.2 dX11_tries_40
        · skip
          subst c47_
          refine lv_iload hx hb dX11_tries_34 (lv_at hl 0 rfl) ?_
          refine lv_goto (tgt := 40) hx hb dX11_tries_36 (by decide) ?_
          exact W.iret (v := (-1)) hx hb hr (fun t ht hW => ⟨⟨(-1), (), rfl, Or.inr (Or.inr (Or.inr (Or.inr (Or.inl (⟨c4_, c5_, rfl, rfl⟩))))), trivial⟩, hS.F ht⟩) hS.2.2 dX11_tries_40
      · skip
        refine lv_istore (lv' := [(6, .int (-1)), (0, .ref (a 0)), (1, .int p0), (2, .int p1), (3, .int p2), (4, .int p3), (5, .int p4)]) hx hb dX11_tries_22 hl (by decide) rfl (fun ls hl => ?_)
        refine lv_iload hx hb dX11_tries_24 (lv_at hl 0 rfl) ?_
        refine lv_if_eq (tgt := 41) hx hb dX11_tries_26 (by decide) (fun c9_ => absurd c9_ (by decide)) (fun _ => ?_)
        refine lv_iload hx hb dX11_tries_29 (lv_at hl 6 rfl) ?_
        refine lv_if_ne (tgt := 39) hx hb dX11_tries_31 (by decide) (fun c48_ => ?_) (fun c48_ => ?_)
        · skip
          refine lv_iconst (v := 0) hx hb dX11_tries_39 (by decide) ?_
          exact W.iret (v := 0) hx hb hr (fun t ht hW => ⟨⟨0, (), rfl, Or.inr (Or.inr (Or.inr (Or.inr (Or.inr (Or.inl (⟨c1_, c2_, c6_, c7_, c8_, c48_, rfl⟩)))))), trivial⟩, hS.F ht⟩) hS.2.2 dX11_tries_40
        · skip
          subst c48_
          refine lv_iload hx hb dX11_tries_34 (lv_at hl 0 rfl) ?_
          refine lv_goto (tgt := 40) hx hb dX11_tries_36 (by decide) ?_
          exact W.iret (v := (-1)) hx hb hr (fun t ht hW => ⟨⟨(-1), (), rfl, Or.inr (Or.inr (Or.inr (Or.inr (Or.inr (Or.inr (Or.inl (⟨c6_, c7_, c8_, rfl, rfl⟩))))))), trivial⟩, hS.F ht⟩) hS.2.2 dX11_tries_40
      · skip
        refine lv_istore (lv' := [(6, .int (-1)), (0, .ref (a 0)), (1, .int p0), (2, .int p1), (3, .int p2), (4, .int p3), (5, .int p4)]) hx hb dX11_tries_22 hl (by decide) rfl (fun ls hl => ?_)
        refine lv_iload hx hb dX11_tries_24 (lv_at hl 0 rfl) ?_
        refine lv_if_eq (tgt := 41) hx hb dX11_tries_26 (by decide) (fun c9_ => absurd c9_ (by decide)) (fun _ => ?_)
        refine lv_iload hx hb dX11_tries_29 (lv_at hl 6 rfl) ?_
        refine lv_if_ne (tgt := 39) hx hb dX11_tries_31 (by decide) (fun c49_ => ?_) (fun c49_ => ?_)
        · skip
          refine lv_iconst (v := 0) hx hb dX11_tries_39 (by decide) ?_
          exact W.iret (v := 0) hx hb hr (fun t ht hW => ⟨⟨0, (), rfl, Or.inr (Or.inr (Or.inr (Or.inr (Or.inr (Or.inr (Or.inr (Or.inl (⟨c1_, c2_, c9_, c10_, c11_, c12_, c49_, rfl⟩)))))))), trivial⟩, hS.F ht⟩) hS.2.2 dX11_tries_40
        · skip
          subst c49_
          refine lv_iload hx hb dX11_tries_34 (lv_at hl 0 rfl) ?_
          refine lv_goto (tgt := 40) hx hb dX11_tries_36 (by decide) ?_
          exact W.iret (v := (-1)) hx hb hr (fun t ht hW => ⟨⟨(-1), (), rfl, Or.inr (Or.inr (Or.inr (Or.inr (Or.inr (Or.inr (Or.inr (Or.inr (Or.inl (⟨c9_, c10_, c11_, c12_, rfl, rfl⟩))))))))), trivial⟩, hS.F ht⟩) hS.2.2 dX11_tries_40
      · skip
        refine lv_istore (lv' := [(6, .int (-1)), (0, .ref (a 0)), (1, .int p0), (2, .int p1), (3, .int p2), (4, .int p3), (5, .int p4)]) hx hb dX11_tries_22 hl (by decide) rfl (fun ls hl => ?_)
        refine lv_iload hx hb dX11_tries_24 (lv_at hl 0 rfl) ?_
        refine lv_if_eq (tgt := 41) hx hb dX11_tries_26 (by decide) (fun c9_ => absurd c9_ (by decide)) (fun _ => ?_)
        refine lv_iload hx hb dX11_tries_29 (lv_at hl 6 rfl) ?_
        refine lv_if_ne (tgt := 39) hx hb dX11_tries_31 (by decide) (fun c50_ => ?_) (fun c50_ => ?_)
        · skip
          refine lv_iconst (v := 0) hx hb dX11_tries_39 (by decide) ?_
          exact W.iret (v := 0) hx hb hr (fun t ht hW => ⟨⟨0, (), rfl, Or.inr (Or.inr (Or.inr (Or.inr (Or.inr (Or.inr (Or.inr (Or.inr (Or.inr (Or.inl (⟨c1_, c2_, c13_, c14_, c15_, c16_, c17_, c50_, rfl⟩)))))))))), trivial⟩, hS.F ht⟩) hS.2.2 dX11_tries_40
        · skip
          subst c50_
          refine lv_iload hx hb dX11_tries_34 (lv_at hl 0 rfl) ?_
          refine lv_goto (tgt := 40) hx hb dX11_tries_36 (by decide) ?_
          exact W.iret (v := (-1)) hx hb hr (fun t ht hW => ⟨⟨(-1), (), rfl, Or.inr (Or.inr (Or.inr (Or.inr (Or.inr (Or.inr (Or.inr (Or.inr (Or.inr (Or.inr (Or.inl (⟨c13_, c14_, c15_, c16_, c17_, rfl, rfl⟩))))))))))), trivial⟩, hS.F ht⟩) hS.2.2 dX11_tries_40
      · skip
        refine lv_istore (lv' := [(6, .int (-1)), (0, .ref (a 0)), (1, .int p0), (2, .int p1), (3, .int p2), (4, .int p3), (5, .int p4)]) hx hb dX11_tries_22 hl (by decide) rfl (fun ls hl => ?_)
        refine lv_iload hx hb dX11_tries_24 (lv_at hl 0 rfl) ?_
        refine lv_if_eq (tgt := 41) hx hb dX11_tries_26 (by decide) (fun c9_ => absurd c9_ (by decide)) (fun _ => ?_)
        refine lv_iload hx hb dX11_tries_29 (lv_at hl 6 rfl) ?_
        refine lv_if_ne (tgt := 39) hx hb dX11_tries_31 (by decide) (fun c51_ => ?_) (fun c51_ => ?_)
        · skip
          refine lv_iconst (v := 0) hx hb dX11_tries_39 (by decide) ?_
          exact W.iret (v := 0) hx hb hr (fun t ht hW => ⟨⟨0, (), rfl, Or.inr (Or.inr (Or.inr (Or.inr (Or.inr (Or.inr (Or.inr (Or.inr (Or.inr (Or.inr (Or.inr (Or.inl (⟨c1_, c2_, c18_, c19_, c20_, c21_, c22_, c23_, c51_, rfl⟩)))))))))))), trivial⟩, hS.F ht⟩) hS.2.2 dX11_tries_40
        · skip
          subst c51_
          refine lv_iload hx hb dX11_tries_34 (lv_at hl 0 rfl) ?_
          refine lv_goto (tgt := 40) hx hb dX11_tries_36 (by decide) ?_
          exact W.iret (v := (-1)) hx hb hr (fun t ht hW => ⟨⟨(-1), (), rfl, Or.inr (Or.inr (Or.inr (Or.inr (Or.inr (Or.inr (Or.inr (Or.inr (Or.inr (Or.inr (Or.inr (Or.inr (Or.inl (⟨c18_, c19_, c20_, c21_, c22_, c23_, rfl, rfl⟩))))))))))))), trivial⟩, hS.F ht⟩) hS.2.2 dX11_tries_40
      · skip
        refine lv_istore (lv' := [(6, .int (-2)), (0, .ref (a 0)), (1, .int p0), (2, .int p1), (3, .int p2), (4, .int p3), (5, .int p4)]) hx hb dX11_tries_22 hl (by decide) rfl (fun ls hl => ?_)
        refine lv_iload hx hb dX11_tries_24 (lv_at hl 0 rfl) ?_
        refine lv_if_eq (tgt := 41) hx hb dX11_tries_26 (by decide) (fun c9_ => absurd c9_ (by decide)) (fun _ => ?_)
        refine lv_iload hx hb dX11_tries_29 (lv_at hl 6 rfl) ?_
        refine lv_if_ne (tgt := 39) hx hb dX11_tries_31 (by decide) (fun c52_ => ?_) (fun c52_ => ?_)
        · skip
          refine lv_iconst (v := 0) hx hb dX11_tries_39 (by decide) ?_
          exact W.iret (v := 0) hx hb hr (fun t ht hW => ⟨⟨0, (), rfl, Or.inr (Or.inr (Or.inr (Or.inr (Or.inr (Or.inr (Or.inr (Or.inr (Or.inr (Or.inr (Or.inr (Or.inr (Or.inr (Or.inl (⟨c1_, c2_, c24_, c25_, c26_, c27_, c28_, c29_, c30_, c52_, rfl⟩)))))))))))))), trivial⟩, hS.F ht⟩) hS.2.2 dX11_tries_40
        · skip
          subst c52_
          refine lv_iload hx hb dX11_tries_34 (lv_at hl 0 rfl) ?_
          refine lv_goto (tgt := 40) hx hb dX11_tries_36 (by decide) ?_
          exact W.iret (v := (-2)) hx hb hr (fun t ht hW => ⟨⟨(-2), (), rfl, Or.inr (Or.inr (Or.inr (Or.inr (Or.inr (Or.inr (Or.inr (Or.inr (Or.inr (Or.inr (Or.inr (Or.inr (Or.inr (Or.inr (Or.inl (⟨c24_, c25_, c26_, c27_, c28_, c29_, c30_, rfl, rfl⟩))))))))))))))), trivial⟩, hS.F ht⟩) hS.2.2 dX11_tries_40
      · skip
        refine lv_istore (lv' := [(6, .int (-2)), (0, .ref (a 0)), (1, .int p0), (2, .int p1), (3, .int p2), (4, .int p3), (5, .int p4)]) hx hb dX11_tries_22 hl (by decide) rfl (fun ls hl => ?_)
        refine lv_iload hx hb dX11_tries_24 (lv_at hl 0 rfl) ?_
        refine lv_if_eq (tgt := 41) hx hb dX11_tries_26 (by decide) (fun c9_ => absurd c9_ (by decide)) (fun _ => ?_)
        refine lv_iload hx hb dX11_tries_29 (lv_at hl 6 rfl) ?_
        refine lv_if_ne (tgt := 39) hx hb dX11_tries_31 (by decide) (fun c53_ => ?_) (fun c53_ => ?_)
        · skip
          refine lv_iconst (v := 0) hx hb dX11_tries_39 (by decide) ?_
          exact W.iret (v := 0) hx hb hr (fun t ht hW => ⟨⟨0, (), rfl, Or.inr (Or.inr (Or.inr (Or.inr (Or.inr (Or.inr (Or.inr (Or.inr (Or.inr (Or.inr (Or.inr (Or.inr (Or.inr (Or.inr (Or.inr (Or.inl (⟨c1_, c2_, c31_, c32_, c33_, c34_, c35_, c36_, c37_, c38_, c53_, rfl⟩)))))))))))))))), trivial⟩, hS.F ht⟩) hS.2.2 dX11_tries_40
        · skip
          subst c53_
          refine lv_iload hx hb dX11_tries_34 (lv_at hl 0 rfl) ?_
          refine lv_goto (tgt := 40) hx hb dX11_tries_36 (by decide) ?_
          exact W.iret (v := (-2)) hx hb hr (fun t ht hW => ⟨⟨(-2), (), rfl, Or.inr (Or.inr (Or.inr (Or.inr (Or.inr (Or.inr (Or.inr (Or.inr (Or.inr (Or.inr (Or.inr (Or.inr (Or.inr (Or.inr (Or.inr (Or.inr (Or.inl (⟨c31_, c32_, c33_, c34_, c35_, c36_, c37_, c38_, rfl, rfl⟩))))))))))))))))), trivial⟩, hS.F ht⟩) hS.2.2 dX11_tries_40
      · skip
        subst c45_
        refine lv_istore (lv' := [(6, .int (-2)), (0, .ref (a 0)), (1, .int 0), (2, .int p1), (3, .int p2), (4, .int p3), (5, .int p4)]) hx hb dX11_tries_22 hl (by decide) rfl (fun ls hl => ?_)
        refine lv_iload hx hb dX11_tries_24 (lv_at hl 0 rfl) ?_
        refine lv_if_eq (tgt := 41) hx hb dX11_tries_26 (by decide) (fun c9_ => absurd c9_ (by decide)) (fun _ => ?_)
        refine lv_iload hx hb dX11_tries_29 (lv_at hl 6 rfl) ?_
        refine lv_if_ne (tgt := 39) hx hb dX11_tries_31 (by decide) (fun c54_ => ?_) (fun c54_ => ?_)
        · skip
          refine lv_iconst (v := 0) hx hb dX11_tries_39 (by decide) ?_
          exact W.iret (v := 0) hx hb hr (fun t ht hW => ⟨⟨0, (), rfl, Or.inr (Or.inr (Or.inr (Or.inr (Or.inr (Or.inr (Or.inr (Or.inr (Or.inr (Or.inr (Or.inr (Or.inr (Or.inr (Or.inr (Or.inr (Or.inr (Or.inr (Or.inl (⟨c1_, c2_, c39_, c40_, c41_, c42_, c43_, c44_, rfl, c54_, rfl⟩)))))))))))))))))), trivial⟩, hS.F ht⟩) hS.2.2 dX11_tries_40
        · skip
          subst c54_
          refine lv_iload hx hb dX11_tries_34 (lv_at hl 0 rfl) ?_
          refine lv_goto (tgt := 40) hx hb dX11_tries_36 (by decide) ?_
          exact W.iret (v := (-2)) hx hb hr (fun t ht hW => ⟨⟨(-2), (), rfl, Or.inr (Or.inr (Or.inr (Or.inr (Or.inr (Or.inr (Or.inr (Or.inr (Or.inr (Or.inr (Or.inr (Or.inr (Or.inr (Or.inr (Or.inr (Or.inr (Or.inr (Or.inr (Or.inl (⟨c39_, c40_, c41_, c42_, c43_, c44_, rfl, rfl, rfl⟩))))))))))))))))))), trivial⟩, hS.F ht⟩) hS.2.2 dX11_tries_40
    · skip
      refine lv_iconst (v := (-1)) hx hb dX11_tries_11 (by decide) ?_
      exact W.iret (v := (-1)) hx hb hr (fun t ht hW => ⟨⟨(-1), (), rfl, Or.inr (Or.inr (Or.inr (Or.inr (Or.inr (Or.inr (Or.inr (Or.inr (Or.inr (Or.inr (Or.inr (Or.inr (Or.inr (Or.inr (Or.inr (Or.inr (Or.inr (Or.inr (Or.inr (⟨c1_, c2_, rfl⟩))))))))))))))))))), trivial⟩, hS.F ht⟩) hS.2.2 dX11_tries_12

theorem dX11_error_0 : decode cX11_error 0 = .ok (.aload_n 0, 1) := by decide +kernel
theorem dX11_error_1 : decode cX11_error 1 = .ok (.getfield 42, 3) := by decide +kernel
theorem dX11_error_4 : decode cX11_error 4 = .ok (.iload_n 1, 1) := by decide +kernel
theorem dX11_error_5 : decode cX11_error 5 = .ok (.invokevirtual 254, 3) := by decide +kernel
theorem dX11_error_8 : decode cX11_error 8 = .ok (.ireturn, 1) := by decide +kernel
def v_X11_error : List Cond := .code yX11_error cX11_error 2 (some .int) :: ([.fieldLink RX11 42 "RestBoard" "machine" "LRestBoard$Machine;", .methodLink RX11 254 yX3_told, .instanceMethod yX3_told, .selects RX3 yX3_told yX3_told, .initialized RX3, .code yX3_told cX3_told 2 (some .int), .fieldLink RX3 17 "RestBoard$Machine" "latest" "[I"] ++ wsX110 ++ wsX30)
theorem m_X11_error_0 : (.fieldLink RX11 42 "RestBoard" "machine" "LRestBoard$Machine;" : Cond) ∈ v_X11_error := List.mem_of_getElem? (i := 1) (by decide +kernel)
theorem i_X11_error_X11 : ∀ w ∈ u_ws RX11 TX11 11, w ∈ v_X11_error := fun w h => List.mem_cons_of_mem _ (List.mem_append_left _ (List.mem_append_right _ h))
set_option maxRecDepth 100000 in
theorem gg_X11_error_X3_told_254 : GoodIn v_X11_error v_X3_told := goodIn_r _ [6, 7, 19, 20, 21, 22, 23, 24, 25, 26, 27, 28] (by decide +kernel) (by decide +kernel)
set_option maxRecDepth 100000 in
theorem g_X11_error_X3_told_254 : GoodIn v_X11_error (wsV RX11 254 RX3 yX3_told v_X3_told) := goodIn_app (goodIn_r _ [2, 3, 4, 5] (by decide +kernel) (by decide +kernel)) gg_X11_error_X3_told_254
set_option maxHeartbeats 4000000 in
set_option maxRecDepth 100000 in
theorem c_X11_error (l : Launch) (dC : Nat → ClassId) (dI : Nat → Nat → Nat) (cy : Nat → ClassId) (a : Nat → Nat) (g : Nat → Nat → Option Nat) (p0 : Int32) : Met l yX11_error v_X11_error ({ frames := 1, cells := 0, slots := 0, locals := 21 }) (va_Pc [.ref (a 0), .int p0] (pp dC dI cy (fw a cy g))) (va_Qi (fun (r : Int32) (_ : Unit) => ((p0 < 0) ∧ (p0 < 10) ∧ r = (-1)) ∨ ((¬ p0 < 0) ∧ ((3 : Int32) ≤ p0) ∧ (p0 < 10) ∧ r = (-1)) ∨ ((¬ p0 < 0) ∧ ((3 : Int32) ≤ p0) ∧ (¬ p0 < 10) ∧ ((10 : Int32) ≤ p0) ∧ r = (-1)) ∨ ((¬ p0 < 0) ∧ (¬ (3 : Int32) ≤ p0) ∧ r = 0)) (fun _ _ => True) (fun _ => False)) 0 0 (fun _ => False) := by
  refine Met.ofW (cc := cX11_error) (maxL := 2) (ret := (some .int)) (by decide) rfl ?_
  intro p e s m args below meth c s₁ B hml hv
  obtain ⟨rfl, hP, hC⟩ := hv
  have hK := hC.1
  have hx := B.exec
  have hb := B.bytes
  have hr := B.returns
  have hts := atoms_spec (ws := v_X11_error) B.pre
  have hown : s.vm.findClass RX11 = some m.cls := findClass_of_methodNamed B.named
  have hlocks := B.notSynchronized
  have hS : va_S (fun _ => False) s.heap s.heap [] := va_S.rf
  have hl := lv_entry ([.ref (a 0), .int p0]) (n := 2) (Nat.le_of_ble_eq_true rfl)
  rw [lg_entry_eq]
  generalize (lg_sl ([.ref (a 0), .int p0]) ++ List.replicate (2 - (lg_sl ([.ref (a 0), .int p0])).length) Slot.unset).toArray = ls at hl ⊢
  have hl : lv_has ls 2 [(0, .ref (a 0)), (1, .int p0)] := hl
  refine lv_aload_n hx hb dX11_error_0 rfl (lv_at hl 0 rfl) ?_
  refine va_get (D := (dC, dI)) (ci := 11) (v := .ref (a 28)) (C := RX11) (T := TX11) (N := 11) hx hb hts i_X11_error_X11 hown hK hP 0 rfl rfl 4 (by decide) (hts _ m_X11_error_0) (fun _ h9 => h9) rfl dX11_error_1 ?_
  refine lv_iload_n hx hb dX11_error_4 rfl (lv_at hl 1 rfl) ?_
  refine tk_pi (va_runV (As := [.int p0]) (rest := []) ⟨hx, hb, hml, hown, hts⟩ (c_X3_told l dC dI cy a g p0) (cwV 1 hts g_X11_error_X3_told_254 rfl rfl rfl (by decide +kernel) ⟨Nat.le_of_ble_eq_true rfl, Nat.le_of_ble_eq_true rfl⟩) (pv_pp hC hP (ci := 3) (q0 := 28) rfl rfl) rfl rfl hl.1 rfl (lv_room (Nat.le_of_ble_eq_true rfl)) dX11_error_5 ⟨Nat.le_of_ble_eq_true rfl, Nat.le_of_ble_eq_true rfl⟩) hP hS (fun r_ H locs hw hP hS => ?_)
  rcases hw with ⟨c1_, c2_, rfl⟩ | ⟨c3_, c4_, c5_, rfl⟩ | ⟨c6_, c7_, c8_, c9_, rfl⟩ | ⟨c10_, c11_, rfl⟩
  · skip
    exact W.iret (v := (-1)) hx hb hr (fun t ht hW => ⟨⟨(-1), (), rfl, Or.inl (⟨c1_, c2_, rfl⟩), trivial⟩, hS.F ht⟩) hS.2.2 dX11_error_8
  · skip
    exact W.iret (v := (-1)) hx hb hr (fun t ht hW => ⟨⟨(-1), (), rfl, Or.inr (Or.inl (⟨c3_, c4_, c5_, rfl⟩)), trivial⟩, hS.F ht⟩) hS.2.2 dX11_error_8
  · skip
    exact W.iret (v := (-1)) hx hb hr (fun t ht hW => ⟨⟨(-1), (), rfl, Or.inr (Or.inr (Or.inl (⟨c6_, c7_, c8_, c9_, rfl⟩))), trivial⟩, hS.F ht⟩) hS.2.2 dX11_error_8
  · skip
    exact W.iret (v := 0) hx hb hr (fun t ht hW => ⟨⟨0, (), rfl, Or.inr (Or.inr (Or.inr (⟨c10_, c11_, rfl⟩))), trivial⟩, hS.F ht⟩) hS.2.2 dX11_error_8

theorem dX11_note_0 : decode cX11_note 0 = .ok (.aload_n 0, 1) := by decide +kernel
theorem dX11_note_1 : decode cX11_note 1 = .ok (.getfield 10, 3) := by decide +kernel
theorem dX11_note_4 : decode cX11_note 4 = .ok (.getfield 257, 3) := by decide +kernel
theorem dX11_note_7 : decode cX11_note 7 = .ok (.iload_n 1, 1) := by decide +kernel
theorem dX11_note_8 : decode cX11_note 8 = .ok (.iload_n 2, 1) := by decide +kernel
theorem dX11_note_9 : decode cX11_note 9 = .ok (.invokevirtual 261, 3) := by decide +kernel
theorem dX11_note_12 : decode cX11_note 12 = .ok (.ireturn, 1) := by decide +kernel
def v_X11_note : List Cond := .code yX11_note cX11_note 3 (some .int) :: ([.fieldLink RX11 10 "RestBoard" "now" "LRestBoard$State;", .fieldLink RX11 257 "RestBoard$State" "notes" "LRestBoard$Log;", .methodLink RX11 261 yX2_told, .instanceMethod yX2_told, .selects RX2 yX2_told yX2_told, .initialized RX2, .code yX2_told cX2_told 4 (some .int), .fieldLink RX2 22 "RestBoard$Log" "kept" "I"] ++ wsX110 ++ wsX80 ++ wsX20)
theorem m_X11_note_0 : (.fieldLink RX11 10 "RestBoard" "now" "LRestBoard$State;" : Cond) ∈ v_X11_note := List.mem_of_getElem? (i := 1) (by decide +kernel)
theorem m_X11_note_1 : (.fieldLink RX11 257 "RestBoard$State" "notes" "LRestBoard$Log;" : Cond) ∈ v_X11_note := List.mem_of_getElem? (i := 2) (by decide +kernel)
theorem i_X11_note_X11 : ∀ w ∈ u_ws RX11 TX11 11, w ∈ v_X11_note := fun w h => List.mem_cons_of_mem _ (List.mem_append_left _ (List.mem_append_left _ (List.mem_append_right _ h)))
theorem i_X11_note_X8 : ∀ w ∈ u_ws RX8 TX8 17, w ∈ v_X11_note := fun w h => List.mem_cons_of_mem _ (List.mem_append_left _ (List.mem_append_right _ h))
set_option maxRecDepth 100000 in
theorem gg_X11_note_X2_told_261 : GoodIn v_X11_note v_X2_told := goodIn_r _ [7, 8, 37, 38, 39, 40] (by decide +kernel) (by decide +kernel)
set_option maxRecDepth 100000 in
theorem g_X11_note_X2_told_261 : GoodIn v_X11_note (wsV RX11 261 RX2 yX2_told v_X2_told) := goodIn_app (goodIn_r _ [3, 4, 5, 6] (by decide +kernel) (by decide +kernel)) gg_X11_note_X2_told_261
set_option maxHeartbeats 4000000 in
set_option maxRecDepth 100000 in
theorem c_X11_note (l : Launch) (dC : Nat → ClassId) (dI : Nat → Nat → Nat) (cy : Nat → ClassId) (a : Nat → Nat) (g : Nat → Nat → Option Nat) (p0 p1 : Int32) : Met l yX11_note v_X11_note ({ frames := 1, cells := 0, slots := 0, locals := 23 }) (va_Pc [.ref (a 0), .int p0, .int p1] (pp dC dI cy (fw a cy g))) (va_Qi (fun (r : Int32) (_ : Unit) => ((p0 < 0) ∧ r = (-1)) ∨ ((¬ p0 < 0) ∧ ((0 : Int32) ≤ p0) ∧ r = (-1))) (fun _ _ => True) (fun _ => False)) 0 0 (fun _ => False) := by
  refine Met.ofW (cc := cX11_note) (maxL := 3) (ret := (some .int)) (by decide) rfl ?_
  intro p e s m args below meth c s₁ B hml hv
  obtain ⟨rfl, hP, hC⟩ := hv
  have hK := hC.1
  have hx := B.exec
  have hb := B.bytes
  have hr := B.returns
  have hts := atoms_spec (ws := v_X11_note) B.pre
  have hown : s.vm.findClass RX11 = some m.cls := findClass_of_methodNamed B.named
  have hlocks := B.notSynchronized
  have hS : va_S (fun _ => False) s.heap s.heap [] := va_S.rf
  have hl := lv_entry ([.ref (a 0), .int p0, .int p1]) (n := 3) (Nat.le_of_ble_eq_true rfl)
  rw [lg_entry_eq]
  generalize (lg_sl ([.ref (a 0), .int p0, .int p1]) ++ List.replicate (3 - (lg_sl ([.ref (a 0), .int p0, .int p1])).length) Slot.unset).toArray = ls at hl ⊢
  have hl : lv_has ls 3 [(0, .ref (a 0)), (1, .int p0), (2, .int p1)] := hl
  refine lv_aload_n hx hb dX11_note_0 rfl (lv_at hl 0 rfl) ?_
  refine va_get (D := (dC, dI)) (ci := 11) (v := .ref (a 1)) (C := RX11) (T := TX11) (N := 11) hx hb hts i_X11_note_X11 hown hK hP 0 rfl rfl 0 (by decide) (hts _ m_X11_note_0) (fun _ h9 => h9) rfl dX11_note_1 ?_
  refine va_get (D := (dC, dI)) (ci := 8) (v := .ref (a 15)) (C := RX8) (T := TX8) (N := 17) hx hb hts i_X11_note_X8 hown hK hP 1 rfl rfl 15 (by decide) (hts _ m_X11_note_1) (fun _ h9 => h9) rfl dX11_note_4 ?_
  refine lv_iload_n hx hb dX11_note_7 rfl (lv_at hl 1 rfl) ?_
  refine lv_iload_n hx hb dX11_note_8 rfl (lv_at hl 2 rfl) ?_
  refine tk_pi (va_runV (As := [.int p0, .int p1]) (rest := []) ⟨hx, hb, hml, hown, hts⟩ (c_X2_told_n l dC dI cy a g p0 p1) (cwV 2 hts g_X11_note_X2_told_261 rfl rfl rfl (by decide +kernel) ⟨Nat.le_of_ble_eq_true rfl, Nat.le_of_ble_eq_true rfl⟩) (pv_pp hC hP (ci := 2) (q0 := 15) rfl rfl) rfl rfl hl.1 rfl (lv_room (Nat.le_of_ble_eq_true rfl)) dX11_note_9 ⟨Nat.le_of_ble_eq_true rfl, Nat.le_of_ble_eq_true rfl⟩) hP hS (fun r_ H locs hw hP hS => ?_)
  rcases hw with ⟨c1_, rfl⟩ | ⟨c2_, c3_, rfl⟩
  · skip
    exact W.iret (v := (-1)) hx hb hr (fun t ht hW => ⟨⟨(-1), (), rfl, Or.inl (⟨c1_, rfl⟩), trivial⟩, hS.F ht⟩) hS.2.2 dX11_note_12
  · skip
    exact W.iret (v := (-1)) hx hb hr (fun t ht hW => ⟨⟨(-1), (), rfl, Or.inr (⟨c2_, c3_, rfl⟩), trivial⟩, hS.F ht⟩) hS.2.2 dX11_note_12

theorem dX11_switched_0 : decode cX11_switched 0 = .ok (.aload_n 0, 1) := by decide +kernel
theorem dX11_switched_1 : decode cX11_switched 1 = .ok (.getfield 10, 3) := by decide +kernel
theorem dX11_switched_4 : decode cX11_switched 4 = .ok (.getfield 265, 3) := by decide +kernel
theorem dX11_switched_7 : decode cX11_switched 7 = .ok (.iload_n 1, 1) := by decide +kernel
theorem dX11_switched_8 : decode cX11_switched 8 = .ok (.iload_n 2, 1) := by decide +kernel
theorem dX11_switched_9 : decode cX11_switched 9 = .ok (.invokevirtual 261, 3) := by decide +kernel
theorem dX11_switched_12 : decode cX11_switched 12 = .ok (.ireturn, 1) := by decide +kernel
def v_X11_switched : List Cond := .code yX11_switched cX11_switched 3 (some .int) :: ([.fieldLink RX11 10 "RestBoard" "now" "LRestBoard$State;", .fieldLink RX11 265 "RestBoard$State" "switches" "LRestBoard$Log;", .methodLink RX11 261 yX2_told, .instanceMethod yX2_told, .selects RX2 yX2_told yX2_told, .initialized RX2, .code yX2_told cX2_told 4 (some .int), .fieldLink RX2 22 "RestBoard$Log" "kept" "I"] ++ wsX110 ++ wsX80 ++ wsX20)
theorem m_X11_switched_0 : (.fieldLink RX11 10 "RestBoard" "now" "LRestBoard$State;" : Cond) ∈ v_X11_switched := List.mem_of_getElem? (i := 1) (by decide +kernel)
theorem m_X11_switched_1 : (.fieldLink RX11 265 "RestBoard$State" "switches" "LRestBoard$Log;" : Cond) ∈ v_X11_switched := List.mem_of_getElem? (i := 2) (by decide +kernel)
theorem i_X11_switched_X11 : ∀ w ∈ u_ws RX11 TX11 11, w ∈ v_X11_switched := fun w h => List.mem_cons_of_mem _ (List.mem_append_left _ (List.mem_append_left _ (List.mem_append_right _ h)))
theorem i_X11_switched_X8 : ∀ w ∈ u_ws RX8 TX8 17, w ∈ v_X11_switched := fun w h => List.mem_cons_of_mem _ (List.mem_append_left _ (List.mem_append_right _ h))
set_option maxRecDepth 100000 in
theorem gg_X11_switched_X2_told_261 : GoodIn v_X11_switched v_X2_told := goodIn_r _ [7, 8, 37, 38, 39, 40] (by decide +kernel) (by decide +kernel)
set_option maxRecDepth 100000 in
theorem g_X11_switched_X2_told_261 : GoodIn v_X11_switched (wsV RX11 261 RX2 yX2_told v_X2_told) := goodIn_app (goodIn_r _ [3, 4, 5, 6] (by decide +kernel) (by decide +kernel)) gg_X11_switched_X2_told_261
set_option maxHeartbeats 4000000 in
set_option maxRecDepth 100000 in
theorem c_X11_switched (l : Launch) (dC : Nat → ClassId) (dI : Nat → Nat → Nat) (cy : Nat → ClassId) (a : Nat → Nat) (g : Nat → Nat → Option Nat) (p0 p1 : Int32) : Met l yX11_switched v_X11_switched ({ frames := 1, cells := 0, slots := 0, locals := 23 }) (va_Pc [.ref (a 0), .int p0, .int p1] (pp dC dI cy (fw a cy g))) (va_Qi (fun (r : Int32) (_ : Unit) => ((p0 < 0) ∧ r = (-1)) ∨ ((¬ p0 < 0) ∧ ((0 : Int32) ≤ p0) ∧ r = (-1))) (fun _ _ => True) (fun _ => False)) 0 0 (fun _ => False) := by
  refine Met.ofW (cc := cX11_switched) (maxL := 3) (ret := (some .int)) (by decide) rfl ?_
  intro p e s m args below meth c s₁ B hml hv
  obtain ⟨rfl, hP, hC⟩ := hv
  have hK := hC.1
  have hx := B.exec
  have hb := B.bytes
  have hr := B.returns
  have hts := atoms_spec (ws := v_X11_switched) B.pre
  have hown : s.vm.findClass RX11 = some m.cls := findClass_of_methodNamed B.named
  have hlocks := B.notSynchronized
  have hS : va_S (fun _ => False) s.heap s.heap [] := va_S.rf
  have hl := lv_entry ([.ref (a 0), .int p0, .int p1]) (n := 3) (Nat.le_of_ble_eq_true rfl)
  rw [lg_entry_eq]
  generalize (lg_sl ([.ref (a 0), .int p0, .int p1]) ++ List.replicate (3 - (lg_sl ([.ref (a 0), .int p0, .int p1])).length) Slot.unset).toArray = ls at hl ⊢
  have hl : lv_has ls 3 [(0, .ref (a 0)), (1, .int p0), (2, .int p1)] := hl
  refine lv_aload_n hx hb dX11_switched_0 rfl (lv_at hl 0 rfl) ?_
  refine va_get (D := (dC, dI)) (ci := 11) (v := .ref (a 1)) (C := RX11) (T := TX11) (N := 11) hx hb hts i_X11_switched_X11 hown hK hP 0 rfl rfl 0 (by decide) (hts _ m_X11_switched_0) (fun _ h9 => h9) rfl dX11_switched_1 ?_
  refine va_get (D := (dC, dI)) (ci := 8) (v := .ref (a 18)) (C := RX8) (T := TX8) (N := 17) hx hb hts i_X11_switched_X8 hown hK hP 1 rfl rfl 16 (by decide) (hts _ m_X11_switched_1) (fun _ h9 => h9) rfl dX11_switched_4 ?_
  refine lv_iload_n hx hb dX11_switched_7 rfl (lv_at hl 1 rfl) ?_
  refine lv_iload_n hx hb dX11_switched_8 rfl (lv_at hl 2 rfl) ?_
  refine tk_pi (va_runV (As := [.int p0, .int p1]) (rest := []) ⟨hx, hb, hml, hown, hts⟩ (c_X2_told_s l dC dI cy a g p0 p1) (cwV 2 hts g_X11_switched_X2_told_261 rfl rfl rfl (by decide +kernel) ⟨Nat.le_of_ble_eq_true rfl, Nat.le_of_ble_eq_true rfl⟩) (pv_pp hC hP (ci := 2) (q0 := 18) rfl rfl) rfl rfl hl.1 rfl (lv_room (Nat.le_of_ble_eq_true rfl)) dX11_switched_9 ⟨Nat.le_of_ble_eq_true rfl, Nat.le_of_ble_eq_true rfl⟩) hP hS (fun r_ H locs hw hP hS => ?_)
  rcases hw with ⟨c1_, rfl⟩ | ⟨c2_, c3_, rfl⟩
  · skip
    exact W.iret (v := (-1)) hx hb hr (fun t ht hW => ⟨⟨(-1), (), rfl, Or.inl (⟨c1_, rfl⟩), trivial⟩, hS.F ht⟩) hS.2.2 dX11_switched_12
  · skip
    exact W.iret (v := (-1)) hx hb hr (fun t ht hW => ⟨⟨(-1), (), rfl, Or.inr (⟨c2_, c3_, rfl⟩), trivial⟩, hS.F ht⟩) hS.2.2 dX11_switched_12

theorem dX11_register_0 : decode cX11_register 0 = .ok (.iload_n 1, 1) := by decide +kernel
theorem dX11_register_1 : decode cX11_register 1 = .ok (.ifCond .lt 18, 3) := by decide +kernel
theorem dX11_register_4 : decode cX11_register 4 = .ok (.iload_n 1, 1) := by decide +kernel
theorem dX11_register_5 : decode cX11_register 5 = .ok (.iconst 4, 1) := by decide +kernel
theorem dX11_register_6 : decode cX11_register 6 = .ok (.if_icmp .gt 13, 3) := by decide +kernel
theorem dX11_register_9 : decode cX11_register 9 = .ok (.iload_n 2, 1) := by decide +kernel
theorem dX11_register_10 : decode cX11_register 10 = .ok (.ifCond .lt 9, 3) := by decide +kernel
theorem dX11_register_13 : decode cX11_register 13 = .ok (.iload_n 2, 1) := by decide +kernel
theorem dX11_register_14 : decode cX11_register 14 = .ok (.bipush 8, 2) := by decide +kernel
theorem dX11_register_16 : decode cX11_register 16 = .ok (.if_icmp .lt 5, 3) := by decide +kernel
theorem dX11_register_19 : decode cX11_register 19 = .ok (.iconst (-1), 1) := by decide +kernel
theorem dX11_register_20 : decode cX11_register 20 = .ok (.ireturn, 1) := by decide +kernel
theorem dX11_register_21 : decode cX11_register 21 = .ok (.aload_n 0, 1) := by decide +kernel
theorem dX11_register_22 : decode cX11_register 22 = .ok (.getfield 10, 3) := by decide +kernel
theorem dX11_register_25 : decode cX11_register 25 = .ok (.getfield 226, 3) := by decide +kernel
theorem dX11_register_28 : decode cX11_register 28 = .ok (.getfield 230, 3) := by decide +kernel
theorem dX11_register_31 : decode cX11_register 31 = .ok (.iload_n 1, 1) := by decide +kernel
theorem dX11_register_32 : decode cX11_register 32 = .ok (.bipush 8, 2) := by decide +kernel
theorem dX11_register_34 : decode cX11_register 34 = .ok (.imul, 1) := by decide +kernel
theorem dX11_register_35 : decode cX11_register 35 = .ok (.iload_n 2, 1) := by decide +kernel
theorem dX11_register_36 : decode cX11_register 36 = .ok (.iadd, 1) := by decide +kernel
theorem dX11_register_37 : decode cX11_register 37 = .ok (.iaload, 1) := by decide +kernel
theorem dX11_register_38 : decode cX11_register 38 = .ok (.ireturn, 1) := by decide +kernel
def v_X11_register : List Cond := .code yX11_register cX11_register 3 (some .int) :: ([.fieldLink RX11 10 "RestBoard" "now" "LRestBoard$State;", .fieldLink RX11 226 "RestBoard$State" "registers" "LRestBoard$Registers;", .fieldLink RX11 230 "RestBoard$Registers" "bytes" "[I"] ++ wsX110 ++ wsX80 ++ wsX60)
theorem m_X11_register_0 : (.fieldLink RX11 10 "RestBoard" "now" "LRestBoard$State;" : Cond) ∈ v_X11_register := List.mem_of_getElem? (i := 1) (by decide +kernel)
theorem m_X11_register_1 : (.fieldLink RX11 226 "RestBoard$State" "registers" "LRestBoard$Registers;" : Cond) ∈ v_X11_register := List.mem_of_getElem? (i := 2) (by decide +kernel)
theorem m_X11_register_2 : (.fieldLink RX11 230 "RestBoard$Registers" "bytes" "[I" : Cond) ∈ v_X11_register := List.mem_of_getElem? (i := 3) (by decide +kernel)
theorem i_X11_register_X11 : ∀ w ∈ u_ws RX11 TX11 11, w ∈ v_X11_register := fun w h => List.mem_cons_of_mem _ (List.mem_append_left _ (List.mem_append_left _ (List.mem_append_right _ h)))
theorem i_X11_register_X8 : ∀ w ∈ u_ws RX8 TX8 17, w ∈ v_X11_register := fun w h => List.mem_cons_of_mem _ (List.mem_append_left _ (List.mem_append_right _ h))
theorem i_X11_register_X6 : ∀ w ∈ u_ws RX6 TX6 4, w ∈ v_X11_register := fun w h => List.mem_cons_of_mem _ (List.mem_append_right _ h)
set_option maxHeartbeats 4000000 in
set_option maxRecDepth 100000 in
theorem c_X11_register (l : Launch) (dC : Nat → ClassId) (dI : Nat → Nat → Nat) (cy : Nat → ClassId) (a : Nat → Nat) (g : Nat → Nat → Option Nat) (p0 p1 : Int32) : Met l yX11_register v_X11_register ({ frames := 0, cells := 0, slots := 0, locals := 0 }) (va_Pc [.ref (a 0), .int p0, .int p1] (pp dC dI cy (fw a cy g))) (va_Qi (fun (r : Int32) (_ : Unit) => ((p0 < 0) ∧ r = (-1)) ∨ ((¬ p0 < 0) ∧ ((4 : Int32) < p0) ∧ r = (-1)) ∨ ((¬ p0 < 0) ∧ (¬ (4 : Int32) < p0) ∧ (p1 < 0) ∧ r = (-1)) ∨ ((¬ p0 < 0) ∧ (¬ (4 : Int32) < p0) ∧ (¬ p1 < 0) ∧ (p1 < 8) ∧ r = 0) ∨ ((¬ p0 < 0) ∧ (¬ (4 : Int32) < p0) ∧ (¬ p1 < 0) ∧ (¬ p1 < 8) ∧ r = (-1))) (fun _ _ => True) (fun _ => False)) 0 0 (fun _ => False) := by
  refine Met.ofW (cc := cX11_register) (maxL := 3) (ret := (some .int)) (by decide) rfl ?_
  intro p e s m args below meth c s₁ B hml hv
  obtain ⟨rfl, hP, hC⟩ := hv
  have hK := hC.1
  have hx := B.exec
  have hb := B.bytes
  have hr := B.returns
  have hts := atoms_spec (ws := v_X11_register) B.pre
  have hown : s.vm.findClass RX11 = some m.cls := findClass_of_methodNamed B.named
  have hlocks := B.notSynchronized
  have hS : va_S (fun _ => False) s.heap s.heap [] := va_S.rf
  have hl := lv_entry ([.ref (a 0), .int p0, .int p1]) (n := 3) (Nat.le_of_ble_eq_true rfl)
  rw [lg_entry_eq]
  generalize (lg_sl ([.ref (a 0), .int p0, .int p1]) ++ List.replicate (3 - (lg_sl ([.ref (a 0), .int p0, .int p1])).length) Slot.unset).toArray = ls at hl ⊢
  have hl : lv_has ls 3 [(0, .ref (a 0)), (1, .int p0), (2, .int p1)] := hl
  refine lv_iload_n hx hb dX11_register_0 rfl (lv_at hl 1 rfl) ?_
  refine lv_if_lt (tgt := 19) hx hb dX11_register_1 (by decide) (fun c1_ => ?_) (fun c1_ => ?_)
  · skip
    refine lv_iconst (v := (-1)) hx hb dX11_register_19 (by decide) ?_
    exact W.iret (v := (-1)) hx hb hr (fun t ht hW => ⟨⟨(-1), (), rfl, Or.inl (⟨c1_, rfl⟩), trivial⟩, hS.F ht⟩) hS.2.2 dX11_register_20
  · skip
    refine lv_iload_n hx hb dX11_register_4 rfl (lv_at hl 1 rfl) ?_
    refine lv_iconst (v := 4) hx hb dX11_register_5 (by decide) ?_
    refine lv_icmp_gt (tgt := 19) hx hb dX11_register_6 (by decide) (fun c2_ => ?_) (fun c2_ => ?_)
    · skip
      refine lv_iconst (v := (-1)) hx hb dX11_register_19 (by decide) ?_
      exact W.iret (v := (-1)) hx hb hr (fun t ht hW => ⟨⟨(-1), (), rfl, Or.inr (Or.inl (⟨c1_, c2_, rfl⟩)), trivial⟩, hS.F ht⟩) hS.2.2 dX11_register_20
    · skip
      refine lv_iload_n hx hb dX11_register_9 rfl (lv_at hl 2 rfl) ?_
      refine lv_if_lt (tgt := 19) hx hb dX11_register_10 (by decide) (fun c3_ => ?_) (fun c3_ => ?_)
      · skip
        refine lv_iconst (v := (-1)) hx hb dX11_register_19 (by decide) ?_
        exact W.iret (v := (-1)) hx hb hr (fun t ht hW => ⟨⟨(-1), (), rfl, Or.inr (Or.inr (Or.inl (⟨c1_, c2_, c3_, rfl⟩))), trivial⟩, hS.F ht⟩) hS.2.2 dX11_register_20
      · skip
        refine lv_iload_n hx hb dX11_register_13 rfl (lv_at hl 2 rfl) ?_
        refine lv_bipush (v := 8) hx hb dX11_register_14 (by decide) ?_
        refine lv_icmp_lt (tgt := 21) hx hb dX11_register_16 (by decide) (fun c4_ => ?_) (fun c4_ => ?_)
        · skip
          refine lv_aload_n hx hb dX11_register_21 rfl (lv_at hl 0 rfl) ?_
          refine va_get (D := (dC, dI)) (ci := 11) (v := .ref (a 1)) (C := RX11) (T := TX11) (N := 11) hx hb hts i_X11_register_X11 hown hK hP 0 rfl rfl 0 (by decide) (hts _ m_X11_register_0) (fun _ h9 => h9) rfl dX11_register_22 ?_
          refine va_get (D := (dC, dI)) (ci := 8) (v := .ref (a 13)) (C := RX8) (T := TX8) (N := 17) hx hb hts i_X11_register_X8 hown hK hP 1 rfl rfl 14 (by decide) (hts _ m_X11_register_1) (fun _ h9 => h9) rfl dX11_register_25 ?_
          refine va_get (D := (dC, dI)) (ci := 6) (v := .ref (a 14)) (C := RX6) (T := TX6) (N := 4) hx hb hts i_X11_register_X6 hown hK hP 13 rfl rfl 0 (by decide) (hts _ m_X11_register_2) (fun _ h9 => h9) rfl dX11_register_28 ?_
          refine lv_iload_n hx hb dX11_register_31 rfl (lv_at hl 1 rfl) ?_
          refine lv_bipush (v := 8) hx hb dX11_register_32 (by decide) ?_
          refine lv_imul hx hb dX11_register_34 ?_
          refine lv_iload_n hx hb dX11_register_35 rfl (lv_at hl 2 rfl) ?_
          refine lv_iadd hx hb dX11_register_36 ?_
          refine va_iald hx hb hK hP 14 0 rfl rfl (rg_in c1_ c2_ c3_ c4_) dX11_register_37 ?_
          refine tk_i 0 (by rfl) ?_
          exact W.iret (v := 0) hx hb hr (fun t ht hW => ⟨⟨0, (), rfl, Or.inr (Or.inr (Or.inr (Or.inl (⟨c1_, c2_, c3_, c4_, rfl⟩)))), trivial⟩, hS.F ht⟩) hS.2.2 dX11_register_38
        · skip
          refine lv_iconst (v := (-1)) hx hb dX11_register_19 (by decide) ?_
          exact W.iret (v := (-1)) hx hb hr (fun t ht hW => ⟨⟨(-1), (), rfl, Or.inr (Or.inr (Or.inr (Or.inr (⟨c1_, c2_, c3_, c4_, rfl⟩)))), trivial⟩, hS.F ht⟩) hS.2.2 dX11_register_20

theorem dX11_count_0 : decode cX11_count 0 = .ok (.iload_n 1, 1) := by decide +kernel
theorem dX11_count_1 : decode cX11_count 1 = .ok (.tableswitch 198 0 13 #[71, 79, 87, 95, 103, 111, 119, 130, 141, 152, 163, 174, 182, 190], 71) := by decide +kernel
theorem dX11_count_72 : decode cX11_count 72 = .ok (.aload_n 0, 1) := by decide +kernel
theorem dX11_count_73 : decode cX11_count 73 = .ok (.getfield 10, 3) := by decide +kernel
theorem dX11_count_76 : decode cX11_count 76 = .ok (.getfield 95, 3) := by decide +kernel
theorem dX11_count_79 : decode cX11_count 79 = .ok (.ireturn, 1) := by decide +kernel
theorem dX11_count_80 : decode cX11_count 80 = .ok (.aload_n 0, 1) := by decide +kernel
theorem dX11_count_81 : decode cX11_count 81 = .ok (.getfield 24, 3) := by decide +kernel
theorem dX11_count_84 : decode cX11_count 84 = .ok (.invokevirtual 268, 3) := by decide +kernel
theorem dX11_count_87 : decode cX11_count 87 = .ok (.ireturn, 1) := by decide +kernel
theorem dX11_count_88 : decode cX11_count 88 = .ok (.aload_n 0, 1) := by decide +kernel
theorem dX11_count_89 : decode cX11_count 89 = .ok (.getfield 10, 3) := by decide +kernel
theorem dX11_count_92 : decode cX11_count 92 = .ok (.getfield 92, 3) := by decide +kernel
theorem dX11_count_95 : decode cX11_count 95 = .ok (.ireturn, 1) := by decide +kernel
theorem dX11_count_96 : decode cX11_count 96 = .ok (.aload_n 0, 1) := by decide +kernel
theorem dX11_count_97 : decode cX11_count 97 = .ok (.getfield 49, 3) := by decide +kernel
theorem dX11_count_100 : decode cX11_count 100 = .ok (.invokevirtual 271, 3) := by decide +kernel
theorem dX11_count_103 : decode cX11_count 103 = .ok (.ireturn, 1) := by decide +kernel
theorem dX11_count_104 : decode cX11_count 104 = .ok (.aload_n 0, 1) := by decide +kernel
theorem dX11_count_105 : decode cX11_count 105 = .ok (.getfield 49, 3) := by decide +kernel
theorem dX11_count_108 : decode cX11_count 108 = .ok (.invokevirtual 274, 3) := by decide +kernel
theorem dX11_count_111 : decode cX11_count 111 = .ok (.ireturn, 1) := by decide +kernel
theorem dX11_count_112 : decode cX11_count 112 = .ok (.aload_n 0, 1) := by decide +kernel
theorem dX11_count_113 : decode cX11_count 113 = .ok (.getfield 10, 3) := by decide +kernel
theorem dX11_count_116 : decode cX11_count 116 = .ok (.getfield 187, 3) := by decide +kernel
theorem dX11_count_119 : decode cX11_count 119 = .ok (.ireturn, 1) := by decide +kernel
theorem dX11_count_120 : decode cX11_count 120 = .ok (.aload_n 0, 1) := by decide +kernel
theorem dX11_count_121 : decode cX11_count 121 = .ok (.getfield 10, 3) := by decide +kernel
theorem dX11_count_124 : decode cX11_count 124 = .ok (.getfield 226, 3) := by decide +kernel
theorem dX11_count_127 : decode cX11_count 127 = .ok (.getfield 277, 3) := by decide +kernel
theorem dX11_count_130 : decode cX11_count 130 = .ok (.ireturn, 1) := by decide +kernel
theorem dX11_count_131 : decode cX11_count 131 = .ok (.aload_n 0, 1) := by decide +kernel
theorem dX11_count_132 : decode cX11_count 132 = .ok (.getfield 10, 3) := by decide +kernel
theorem dX11_count_135 : decode cX11_count 135 = .ok (.getfield 226, 3) := by decide +kernel
theorem dX11_count_138 : decode cX11_count 138 = .ok (.getfield 280, 3) := by decide +kernel
theorem dX11_count_141 : decode cX11_count 141 = .ok (.ireturn, 1) := by decide +kernel
theorem dX11_count_142 : decode cX11_count 142 = .ok (.aload_n 0, 1) := by decide +kernel
theorem dX11_count_143 : decode cX11_count 143 = .ok (.getfield 10, 3) := by decide +kernel
theorem dX11_count_146 : decode cX11_count 146 = .ok (.getfield 226, 3) := by decide +kernel
theorem dX11_count_149 : decode cX11_count 149 = .ok (.getfield 283, 3) := by decide +kernel
theorem dX11_count_152 : decode cX11_count 152 = .ok (.ireturn, 1) := by decide +kernel
theorem dX11_count_153 : decode cX11_count 153 = .ok (.aload_n 0, 1) := by decide +kernel
theorem dX11_count_154 : decode cX11_count 154 = .ok (.getfield 10, 3) := by decide +kernel
theorem dX11_count_157 : decode cX11_count 157 = .ok (.getfield 257, 3) := by decide +kernel
theorem dX11_count_160 : decode cX11_count 160 = .ok (.getfield 286, 3) := by decide +kernel
theorem dX11_count_163 : decode cX11_count 163 = .ok (.ireturn, 1) := by decide +kernel
theorem dX11_count_164 : decode cX11_count 164 = .ok (.aload_n 0, 1) := by decide +kernel
theorem dX11_count_165 : decode cX11_count 165 = .ok (.getfield 10, 3) := by decide +kernel
theorem dX11_count_168 : decode cX11_count 168 = .ok (.getfield 265, 3) := by decide +kernel
theorem dX11_count_171 : decode cX11_count 171 = .ok (.getfield 286, 3) := by decide +kernel
theorem dX11_count_174 : decode cX11_count 174 = .ok (.ireturn, 1) := by decide +kernel
theorem dX11_count_175 : decode cX11_count 175 = .ok (.aload_n 0, 1) := by decide +kernel
theorem dX11_count_176 : decode cX11_count 176 = .ok (.getfield 42, 3) := by decide +kernel
theorem dX11_count_179 : decode cX11_count 179 = .ok (.invokevirtual 288, 3) := by decide +kernel
theorem dX11_count_182 : decode cX11_count 182 = .ok (.ireturn, 1) := by decide +kernel
theorem dX11_count_183 : decode cX11_count 183 = .ok (.aload_n 0, 1) := by decide +kernel
theorem dX11_count_184 : decode cX11_count 184 = .ok (.getfield 65, 3) := by decide +kernel
theorem dX11_count_187 : decode cX11_count 187 = .ok (.invokevirtual 190, 3) := by decide +kernel
theorem dX11_count_190 : decode cX11_count 190 = .ok (.ireturn, 1) := by decide +kernel
theorem dX11_count_191 : decode cX11_count 191 = .ok (.aload_n 0, 1) := by decide +kernel
theorem dX11_count_192 : decode cX11_count 192 = .ok (.getfield 33, 3) := by decide +kernel
theorem dX11_count_195 : decode cX11_count 195 = .ok (.invokevirtual 291, 3) := by decide +kernel
theorem dX11_count_198 : decode cX11_count 198 = .ok (.ireturn, 1) := by decide +kernel
theorem dX11_count_199 : decode cX11_count 199 = .ok (.iload_n 1, 1) := by decide +kernel
theorem dX11_count_200 : decode cX11_count 200 = .ok (.bipush 14, 2) := by decide +kernel
theorem dX11_count_202 : decode cX11_count 202 = .ok (.if_icmp .lt 21, 3) := by decide +kernel
theorem dX11_count_205 : decode cX11_count 205 = .ok (.iload_n 1, 1) := by decide +kernel
theorem dX11_count_206 : decode cX11_count 206 = .ok (.bipush 21, 2) := by decide +kernel
theorem dX11_count_208 : decode cX11_count 208 = .ok (.if_icmp .ge 15, 3) := by decide +kernel
theorem dX11_count_211 : decode cX11_count 211 = .ok (.aload_n 0, 1) := by decide +kernel
theorem dX11_count_212 : decode cX11_count 212 = .ok (.getfield 69, 3) := by decide +kernel
theorem dX11_count_215 : decode cX11_count 215 = .ok (.iload_n 1, 1) := by decide +kernel
theorem dX11_count_216 : decode cX11_count 216 = .ok (.bipush 14, 2) := by decide +kernel
theorem dX11_count_218 : decode cX11_count 218 = .ok (.isub, 1) := by decide +kernel
theorem dX11_count_219 : decode cX11_count 219 = .ok (.iaload, 1) := by decide +kernel
theorem dX11_count_220 : decode cX11_count 220 = .ok (.goto 4, 3) := by decide +kernel
theorem dX11_count_223 : decode cX11_count 223 = .ok (.iconst (-1), 1) := by decide +kernel
theorem dX11_count_224 : decode cX11_count 224 = .ok (.ireturn, 1) := by decide +kernel
def v_X11_count : List Cond := .code yX11_count cX11_count 2 (some .int) :: ([.fieldLink RX11 10 "RestBoard" "now" "LRestBoard$State;", .fieldLink RX11 95 "RestBoard$State" "size" "I", .fieldLink RX11 24 "RestBoard" "tree" "LRestBoard$Tree;", .fieldLink RX11 92 "RestBoard$State" "resting" "I", .fieldLink RX11 49 "RestBoard" "powers" "LRestBoard$Powers;", .fieldLink RX11 187 "RestBoard$State" "raised" "I", .fieldLink RX11 226 "RestBoard$State" "registers" "LRestBoard$Registers;", .fieldLink RX11 277 "RestBoard$Registers" "reads" "I", .fieldLink RX11 280 "RestBoard$Registers" "writes" "I", .fieldLink RX11 283 "RestBoard$Registers" "select" "I", .fieldLink RX11 257 "RestBoard$State" "notes" "LRestBoard$Log;", .fieldLink RX11 286 "RestBoard$Log" "kept" "I", .fieldLink RX11 265 "RestBoard$State" "switches" "LRestBoard$Log;", .fieldLink RX11 42 "RestBoard" "machine" "LRestBoard$Machine;", .fieldLink RX11 65 "RestBoard" "history" "LRestBoard$History;", .fieldLink RX11 33 "RestBoard" "table" "LRestBoard$Table;", .fieldLink RX11 69 "RestBoard" "refusals" "[I", .methodLink RX11 268 yX10_devices, .instanceMethod yX10_devices, .selects RX10 yX10_devices yX10_devices, .initialized RX10, .code yX10_devices cX10_devices 3 (some .int), .fieldLink RX10 17 "RestBoard$Tree" "now" "LRestBoard$State;", .fieldLink RX10 26 "RestBoard$State" "size" "I", .fieldLink RX10 11 "RestBoard$Tree" "nodes" "[LRestBoard$Node;", .fieldLink RX10 36 "RestBoard$Node" "kind" "I", .methodLink RX11 271 yX5_resourcesOn, .instanceMethod yX5_resourcesOn, .selects RX5 yX5_resourcesOn yX5_resourcesOn, .initialized RX5, .code yX5_resourcesOn cX5_resourcesOn 3 (some .int), .fieldLink RX5 22 "RestBoard$Powers" "now" "LRestBoard$State;", .fieldLink RX5 63 "RestBoard$State" "size" "I", .fieldLink RX5 18 "RestBoard$Powers" "tree" "LRestBoard$Tree;", .fieldLink RX5 36 "RestBoard$Tree" "nodes" "[LRestBoard$Node;", .fieldLink RX5 66 "RestBoard$Node" "kind" "I", .methodLink RX11 274 yX5_armedDevices, .instanceMethod yX5_armedDevices, .selects RX5 yX5_armedDevices yX5_armedDevices, .code yX5_armedDevices cX5_armedDevices 3 (some .int), .fieldLink RX5 119 "RestBoard$State" "lines" "[I", .methodLink RX11 288 yX3_steps, .instanceMethod yX3_steps, .selects RX3 yX3_steps yX3_steps, .initialized RX3, .code yX3_steps cX3_steps 1 (some .int), .fieldLink RX3 41 "RestBoard$Machine" "steps" "I", .methodLink RX11 190 yX1_kept, .instanceMethod yX1_kept, .selects RX1 yX1_kept yX1_kept, .initialized RX1, .code yX1_kept cX1_kept 1 (some .int), .fieldLink RX1 24 "RestBoard$History" "kept" "I", .methodLink RX11 291 yX9_length, .instanceMethod yX9_length, .selects RX9 yX9_length yX9_length, .initialized RX9, .code yX9_length cX9_length 1 (some .int), .fieldLink RX9 35 "RestBoard$Table" "length" "I"] ++ wsX110 ++ wsX80 ++ wsX60 ++ wsX20 ++ wsX100 ++ wsX40 ++ wsX50 ++ wsX30 ++ wsX10 ++ wsX90)
theorem m_X11_count_0 : (.fieldLink RX11 10 "RestBoard" "now" "LRestBoard$State;" : Cond) ∈ v_X11_count := List.mem_of_getElem? (i := 1) (by decide +kernel)
theorem m_X11_count_1 : (.fieldLink RX11 95 "RestBoard$State" "size" "I" : Cond) ∈ v_X11_count := List.mem_of_getElem? (i := 2) (by decide +kernel)
theorem m_X11_count_2 : (.fieldLink RX11 24 "RestBoard" "tree" "LRestBoard$Tree;" : Cond) ∈ v_X11_count := List.mem_of_getElem? (i := 3) (by decide +kernel)
theorem m_X11_count_3 : (.fieldLink RX11 92 "RestBoard$State" "resting" "I" : Cond) ∈ v_X11_count := List.mem_of_getElem? (i := 4) (by decide +kernel)
theorem m_X11_count_4 : (.fieldLink RX11 49 "RestBoard" "powers" "LRestBoard$Powers;" : Cond) ∈ v_X11_count := List.mem_of_getElem? (i := 5) (by decide +kernel)
theorem m_X11_count_5 : (.fieldLink RX11 187 "RestBoard$State" "raised" "I" : Cond) ∈ v_X11_count := List.mem_of_getElem? (i := 6) (by decide +kernel)
theorem m_X11_count_6 : (.fieldLink RX11 226 "RestBoard$State" "registers" "LRestBoard$Registers;" : Cond) ∈ v_X11_count := List.mem_of_getElem? (i := 7) (by decide +kernel)
theorem m_X11_count_7 : (.fieldLink RX11 277 "RestBoard$Registers" "reads" "I" : Cond) ∈ v_X11_count := List.mem_of_getElem? (i := 8) (by decide +kernel)
theorem m_X11_count_8 : (.fieldLink RX11 280 "RestBoard$Registers" "writes" "I" : Cond) ∈ v_X11_count := List.mem_of_getElem? (i := 9) (by decide +kernel)
theorem m_X11_count_9 : (.fieldLink RX11 283 "RestBoard$Registers" "select" "I" : Cond) ∈ v_X11_count := List.mem_of_getElem? (i := 10) (by decide +kernel)
theorem m_X11_count_10 : (.fieldLink RX11 257 "RestBoard$State" "notes" "LRestBoard$Log;" : Cond) ∈ v_X11_count := List.mem_of_getElem? (i := 11) (by decide +kernel)
theorem m_X11_count_11 : (.fieldLink RX11 286 "RestBoard$Log" "kept" "I" : Cond) ∈ v_X11_count := List.mem_of_getElem? (i := 12) (by decide +kernel)
theorem m_X11_count_12 : (.fieldLink RX11 265 "RestBoard$State" "switches" "LRestBoard$Log;" : Cond) ∈ v_X11_count := List.mem_of_getElem? (i := 13) (by decide +kernel)
theorem m_X11_count_13 : (.fieldLink RX11 42 "RestBoard" "machine" "LRestBoard$Machine;" : Cond) ∈ v_X11_count := List.mem_of_getElem? (i := 14) (by decide +kernel)
theorem m_X11_count_14 : (.fieldLink RX11 65 "RestBoard" "history" "LRestBoard$History;" : Cond) ∈ v_X11_count := List.mem_of_getElem? (i := 15) (by decide +kernel)
theorem m_X11_count_15 : (.fieldLink RX11 33 "RestBoard" "table" "LRestBoard$Table;" : Cond) ∈ v_X11_count := List.mem_of_getElem? (i := 16) (by decide +kernel)
theorem m_X11_count_16 : (.fieldLink RX11 69 "RestBoard" "refusals" "[I" : Cond) ∈ v_X11_count := List.mem_of_getElem? (i := 17) (by decide +kernel)
theorem i_X11_count_X11 : ∀ w ∈ u_ws RX11 TX11 11, w ∈ v_X11_count := fun w h => List.mem_cons_of_mem _ (List.mem_append_left _ (List.mem_append_left _ (List.mem_append_left _ (List.mem_append_left _ (List.mem_append_left _ (List.mem_append_left _ (List.mem_append_left _ (List.mem_append_left _ (List.mem_append_left _ (List.mem_append_right _ h))))))))))
theorem i_X11_count_X8 : ∀ w ∈ u_ws RX8 TX8 17, w ∈ v_X11_count := fun w h => List.mem_cons_of_mem _ (List.mem_append_left _ (List.mem_append_left _ (List.mem_append_left _ (List.mem_append_left _ (List.mem_append_left _ (List.mem_append_left _ (List.mem_append_left _ (List.mem_append_left _ (List.mem_append_right _ h)))))))))
theorem i_X11_count_X6 : ∀ w ∈ u_ws RX6 TX6 4, w ∈ v_X11_count := fun w h => List.mem_cons_of_mem _ (List.mem_append_left _ (List.mem_append_left _ (List.mem_append_left _ (List.mem_append_left _ (List.mem_append_left _ (List.mem_append_left _ (List.mem_append_left _ (List.mem_append_right _ h))))))))
theorem i_X11_count_X2 : ∀ w ∈ u_ws RX2 TX2 4, w ∈ v_X11_count := fun w h => List.mem_cons_of_mem _ (List.mem_append_left _ (List.mem_append_left _ (List.mem_append_left _ (List.mem_append_left _ (List.mem_append_left _ (List.mem_append_left _ (List.mem_append_right _ h)))))))
set_option maxRecDepth 100000 in
theorem gg_X11_count_X10_devices_268 : GoodIn v_X11_count v_X10_devices := goodIn_r _ [22, 23, 24, 25, 26, 96, 97, 71, 72, 73, 74, 75, 76, 77, 78, 79, 80, 81, 82, 83, 84, 85, 86, 87, 98, 99, 100, 101, 102, 103, 104, 105, 106, 107, 108, 109, 110, 111] (by decide +kernel) (by decide +kernel)
set_option maxRecDepth 100000 in
theorem g_X11_count_X10_devices_268 : GoodIn v_X11_count (wsV RX11 268 RX10 yX10_devices v_X10_devices) := goodIn_app (goodIn_r _ [18, 19, 20, 21] (by decide +kernel) (by decide +kernel)) gg_X11_count_X10_devices_268
set_option maxRecDepth 100000 in
theorem gg_X11_count_X5_resourcesOn_271 : GoodIn v_X11_count v_X5_resourcesOn := goodIn_r _ [31, 32, 33, 34, 35, 36, 112, 113, 114, 115, 71, 72, 73, 74, 75, 76, 77, 78, 79, 80, 81, 82, 83, 84, 85, 86, 87, 96, 97, 98, 99, 100, 101, 102, 103, 104, 105, 106, 107, 108, 109, 110, 111] (by decide +kernel) (by decide +kernel)
set_option maxRecDepth 100000 in
theorem g_X11_count_X5_resourcesOn_271 : GoodIn v_X11_count (wsV RX11 271 RX5 yX5_resourcesOn v_X5_resourcesOn) := goodIn_app (goodIn_r _ [27, 28, 29, 30] (by decide +kernel) (by decide +kernel)) gg_X11_count_X5_resourcesOn_271
set_option maxRecDepth 100000 in
theorem gg_X11_count_X5_armedDevices_274 : GoodIn v_X11_count v_X5_armedDevices := goodIn_r _ [40, 32, 33, 41, 112, 113, 114, 115, 71, 72, 73, 74, 75, 76, 77, 78, 79, 80, 81, 82, 83, 84, 85, 86, 87] (by decide +kernel) (by decide +kernel)
set_option maxRecDepth 100000 in
theorem g_X11_count_X5_armedDevices_274 : GoodIn v_X11_count (wsV RX11 274 RX5 yX5_armedDevices v_X5_armedDevices) := goodIn_app (goodIn_r _ [37, 38, 39, 30] (by decide +kernel) (by decide +kernel)) gg_X11_count_X5_armedDevices_274
set_option maxRecDepth 100000 in
theorem gg_X11_count_X3_steps_288 : GoodIn v_X11_count v_X3_steps := goodIn_r _ [46, 47, 116, 117, 118, 119, 120, 121, 122, 123, 124, 125] (by decide +kernel) (by decide +kernel)
set_option maxRecDepth 100000 in
theorem g_X11_count_X3_steps_288 : GoodIn v_X11_count (wsV RX11 288 RX3 yX3_steps v_X3_steps) := goodIn_app (goodIn_r _ [42, 43, 44, 45] (by decide +kernel) (by decide +kernel)) gg_X11_count_X3_steps_288
set_option maxRecDepth 100000 in
theorem gg_X11_count_X1_kept_190 : GoodIn v_X11_count v_X1_kept := goodIn_r _ [52, 53, 126, 127, 128, 129, 130] (by decide +kernel) (by decide +kernel)
set_option maxRecDepth 100000 in
theorem g_X11_count_X1_kept_190 : GoodIn v_X11_count (wsV RX11 190 RX1 yX1_kept v_X1_kept) := goodIn_app (goodIn_r _ [48, 49, 50, 51] (by decide +kernel) (by decide +kernel)) gg_X11_count_X1_kept_190
set_option maxRecDepth 100000 in
theorem gg_X11_count_X9_length_291 : GoodIn v_X11_count v_X9_length := goodIn_r _ [58, 59, 131, 132, 133, 134, 135, 136, 137, 138, 139, 140, 141, 142, 143, 144, 145] (by decide +kernel) (by decide +kernel)
set_option maxRecDepth 100000 in
theorem g_X11_count_X9_length_291 : GoodIn v_X11_count (wsV RX11 291 RX9 yX9_length v_X9_length) := goodIn_app (goodIn_r _ [54, 55, 56, 57] (by decide +kernel) (by decide +kernel)) gg_X11_count_X9_length_291
set_option maxHeartbeats 4000000 in
set_option maxRecDepth 100000 in
theorem c_X11_count (l : Launch) (dC : Nat → ClassId) (dI : Nat → Nat → Nat) (cy : Nat → ClassId) (a : Nat → Nat) (g : Nat → Nat → Option Nat) (p0 : Int32) : Met l yX11_count v_X11_count ({ frames := 1, cells := 0, slots := 0, locals := 22 }) (va_Pc [.ref (a 0), .int p0] (pp dC dI cy (fw a cy g))) (va_Qi (fun (r : Int32) (_ : Unit) => ((p0 = 0) ∧ r = 1) ∨ ((p0 = 1) ∧ r = 1) ∨ ((p0 = 2) ∧ r = 0) ∨ ((p0 = 3) ∧ r = 0) ∨ ((p0 = 4) ∧ r = 0) ∨ ((p0 = 5) ∧ r = 0) ∨ ((p0 = 6) ∧ r = 0) ∨ ((p0 = 7) ∧ r = 0) ∨ ((p0 = 8) ∧ r = 0) ∨ ((p0 = 9) ∧ r = 0) ∨ ((p0 = 10) ∧ r = 0) ∨ ((p0 = 11) ∧ r = 0) ∨ ((p0 = 12) ∧ r = 0) ∨ ((p0 = 13) ∧ r = 0) ∨ ((¬ p0 = 0) ∧ (¬ p0 = 1) ∧ (¬ p0 = 2) ∧ (¬ p0 = 3) ∧ (¬ p0 = 4) ∧ (¬ p0 = 5) ∧ (¬ p0 = 6) ∧ (¬ p0 = 7) ∧ (¬ p0 = 8) ∧ (¬ p0 = 9) ∧ (¬ p0 = 10) ∧ (¬ p0 = 11) ∧ (¬ p0 = 12) ∧ (¬ p0 = 13) ∧ (p0 < 14) ∧ r = (-1)) ∨ ((¬ p0 = 0) ∧ (¬ p0 = 1) ∧ (¬ p0 = 2) ∧ (¬ p0 = 3) ∧ (¬ p0 = 4) ∧ (¬ p0 = 5) ∧ (¬ p0 = 6) ∧ (¬ p0 = 7) ∧ (¬ p0 = 8) ∧ (¬ p0 = 9) ∧ (¬ p0 = 10) ∧ (¬ p0 = 11) ∧ (¬ p0 = 12) ∧ (¬ p0 = 13) ∧ (¬ p0 < 14) ∧ ((21 : Int32) ≤ p0) ∧ r = (-1)) ∨ ((¬ p0 = 0) ∧ (¬ p0 = 1) ∧ (¬ p0 = 2) ∧ (¬ p0 = 3) ∧ (¬ p0 = 4) ∧ (¬ p0 = 5) ∧ (¬ p0 = 6) ∧ (¬ p0 = 7) ∧ (¬ p0 = 8) ∧ (¬ p0 = 9) ∧ (¬ p0 = 10) ∧ (¬ p0 = 11) ∧ (¬ p0 = 12) ∧ (¬ p0 = 13) ∧ (¬ p0 < 14) ∧ (¬ (21 : Int32) ≤ p0) ∧ r = 0)) (fun _ _ => True) (fun _ => False)) 0 0 (fun _ => False) := by
  refine Met.ofW (cc := cX11_count) (maxL := 2) (ret := (some .int)) (by decide) rfl ?_
  intro p e s m args below meth c s₁ B hml hv
  obtain ⟨rfl, hP, hC⟩ := hv
  have hK := hC.1
  have hx := B.exec
  have hb := B.bytes
  have hr := B.returns
  have hts := atoms_spec (ws := v_X11_count) B.pre
  have hown : s.vm.findClass RX11 = some m.cls := findClass_of_methodNamed B.named
  have hlocks := B.notSynchronized
  have hS : va_S (fun _ => False) s.heap s.heap [] := va_S.rf
  have hl := lv_entry ([.ref (a 0), .int p0]) (n := 2) (Nat.le_of_ble_eq_true rfl)
  rw [lg_entry_eq]
  generalize (lg_sl ([.ref (a 0), .int p0]) ++ List.replicate (2 - (lg_sl ([.ref (a 0), .int p0])).length) Slot.unset).toArray = ls at hl ⊢
  have hl : lv_has ls 2 [(0, .ref (a 0)), (1, .int p0)] := hl
  refine lv_iload_n hx hb dX11_count_0 rfl (lv_at hl 1 rfl) ?_
  by_cases c1_ : p0 = 0
  · skip
    subst c1_
    refine lv_tableIn (off := 71) (tgt := 72) hx hb dX11_count_1 (by decide) (by decide) (by decide) (by decide) ?_
    refine lv_aload_n hx hb dX11_count_72 rfl (lv_at hl 0 rfl) ?_
    refine va_get (D := (dC, dI)) (ci := 11) (v := .ref (a 1)) (C := RX11) (T := TX11) (N := 11) hx hb hts i_X11_count_X11 hown hK hP 0 rfl rfl 0 (by decide) (hts _ m_X11_count_0) (fun _ h9 => h9) rfl dX11_count_73 ?_
    refine va_get (D := (dC, dI)) (ci := 8) (v := .int 1) (C := RX8) (T := TX8) (N := 17) hx hb hts i_X11_count_X8 hown hK hP 1 rfl rfl 0 (by decide) (hts _ m_X11_count_1) (fun _ h9 => h9) rfl dX11_count_76 ?_
    exact W.iret (v := 1) hx hb hr (fun t ht hW => ⟨⟨1, (), rfl, Or.inl (⟨rfl, rfl⟩), trivial⟩, hS.F ht⟩) hS.2.2 dX11_count_79
  by_cases c2_ : p0 = 1
  · skip
    subst c2_
    refine lv_tableIn (off := 79) (tgt := 80) hx hb dX11_count_1 (by decide) (by decide) (by decide) (by decide) ?_
    refine lv_aload_n hx hb dX11_count_80 rfl (lv_at hl 0 rfl) ?_
    refine va_get (D := (dC, dI)) (ci := 11) (v := .ref (a 21)) (C := RX11) (T := TX11) (N := 11) hx hb hts i_X11_count_X11 hown hK hP 0 rfl rfl 2 (by decide) (hts _ m_X11_count_2) (fun _ h9 => h9) rfl dX11_count_81 ?_
    refine tk_pi (va_runV (As := []) (rest := []) ⟨hx, hb, hml, hown, hts⟩ (c_X10_devices l dC dI cy a g) (cwV 0 hts g_X11_count_X10_devices_268 rfl rfl rfl (by decide +kernel) ⟨Nat.le_of_ble_eq_true rfl, Nat.le_of_ble_eq_true rfl⟩) (pv_pp hC hP (ci := 10) (q0 := 21) rfl rfl) rfl rfl hl.1 rfl (lv_room (Nat.le_of_ble_eq_true rfl)) dX11_count_84 ⟨Nat.le_of_ble_eq_true rfl, Nat.le_of_ble_eq_true rfl⟩) hP hS (fun r_ H locs hw hP hS => ?_)
    subst hw
    exact W.iret (v := 1) hx hb hr (fun t ht hW => ⟨⟨1, (), rfl, Or.inr (Or.inl (⟨rfl, rfl⟩)), trivial⟩, hS.F ht⟩) hS.2.2 dX11_count_87
  by_cases c3_ : p0 = 2
  · skip
    subst c3_
    refine lv_tableIn (off := 87) (tgt := 88) hx hb dX11_count_1 (by decide) (by decide) (by decide) (by decide) ?_
    refine lv_aload_n hx hb dX11_count_88 rfl (lv_at hl 0 rfl) ?_
    refine va_get (D := (dC, dI)) (ci := 11) (v := .ref (a 1)) (C := RX11) (T := TX11) (N := 11) hx hb hts i_X11_count_X11 hown hK hP 0 rfl rfl 0 (by decide) (hts _ m_X11_count_0) (fun _ h9 => h9) rfl dX11_count_89 ?_
    refine va_get (D := (dC, dI)) (ci := 8) (v := .int 0) (C := RX8) (T := TX8) (N := 17) hx hb hts i_X11_count_X8 hown hK hP 1 rfl rfl 1 (by decide) (hts _ m_X11_count_3) (fun _ h9 => h9) rfl dX11_count_92 ?_
    exact W.iret (v := 0) hx hb hr (fun t ht hW => ⟨⟨0, (), rfl, Or.inr (Or.inr (Or.inl (⟨rfl, rfl⟩))), trivial⟩, hS.F ht⟩) hS.2.2 dX11_count_95
  by_cases c4_ : p0 = 3
  · skip
    subst c4_
    refine lv_tableIn (off := 95) (tgt := 96) hx hb dX11_count_1 (by decide) (by decide) (by decide) (by decide) ?_
    refine lv_aload_n hx hb dX11_count_96 rfl (lv_at hl 0 rfl) ?_
    refine va_get (D := (dC, dI)) (ci := 11) (v := .ref (a 30)) (C := RX11) (T := TX11) (N := 11) hx hb hts i_X11_count_X11 hown hK hP 0 rfl rfl 5 (by decide) (hts _ m_X11_count_4) (fun _ h9 => h9) rfl dX11_count_97 ?_
    refine tk_pi (va_runV (As := []) (rest := []) ⟨hx, hb, hml, hown, hts⟩ (c_X5_resourcesOn l dC dI cy a g) (cwV 0 hts g_X11_count_X5_resourcesOn_271 rfl rfl rfl (by decide +kernel) ⟨Nat.le_of_ble_eq_true rfl, Nat.le_of_ble_eq_true rfl⟩) (pv_pp hC hP (ci := 5) (q0 := 30) rfl rfl) rfl rfl hl.1 rfl (lv_room (Nat.le_of_ble_eq_true rfl)) dX11_count_100 ⟨Nat.le_of_ble_eq_true rfl, Nat.le_of_ble_eq_true rfl⟩) hP hS (fun r_ H locs hw hP hS => ?_)
    subst hw
    exact W.iret (v := 0) hx hb hr (fun t ht hW => ⟨⟨0, (), rfl, Or.inr (Or.inr (Or.inr (Or.inl (⟨rfl, rfl⟩)))), trivial⟩, hS.F ht⟩) hS.2.2 dX11_count_103
  by_cases c5_ : p0 = 4
  · skip
    subst c5_
    refine lv_tableIn (off := 103) (tgt := 104) hx hb dX11_count_1 (by decide) (by decide) (by decide) (by decide) ?_
    refine lv_aload_n hx hb dX11_count_104 rfl (lv_at hl 0 rfl) ?_
    refine va_get (D := (dC, dI)) (ci := 11) (v := .ref (a 30)) (C := RX11) (T := TX11) (N := 11) hx hb hts i_X11_count_X11 hown hK hP 0 rfl rfl 5 (by decide) (hts _ m_X11_count_4) (fun _ h9 => h9) rfl dX11_count_105 ?_
    refine tk_pi (va_runV (As := []) (rest := []) ⟨hx, hb, hml, hown, hts⟩ (c_X5_armedDevices l dC dI cy a g) (cwV 0 hts g_X11_count_X5_armedDevices_274 rfl rfl rfl (by decide +kernel) ⟨Nat.le_of_ble_eq_true rfl, Nat.le_of_ble_eq_true rfl⟩) (pv_pp hC hP (ci := 5) (q0 := 30) rfl rfl) rfl rfl hl.1 rfl (lv_room (Nat.le_of_ble_eq_true rfl)) dX11_count_108 ⟨Nat.le_of_ble_eq_true rfl, Nat.le_of_ble_eq_true rfl⟩) hP hS (fun r_ H locs hw hP hS => ?_)
    subst hw
    exact W.iret (v := 0) hx hb hr (fun t ht hW => ⟨⟨0, (), rfl, Or.inr (Or.inr (Or.inr (Or.inr (Or.inl (⟨rfl, rfl⟩))))), trivial⟩, hS.F ht⟩) hS.2.2 dX11_count_111
  by_cases c6_ : p0 = 5
  · skip
    subst c6_
    refine lv_tableIn (off := 111) (tgt := 112) hx hb dX11_count_1 (by decide) (by decide) (by decide) (by decide) ?_
    refine lv_aload_n hx hb dX11_count_112 rfl (lv_at hl 0 rfl) ?_
    refine va_get (D := (dC, dI)) (ci := 11) (v := .ref (a 1)) (C := RX11) (T := TX11) (N := 11) hx hb hts i_X11_count_X11 hown hK hP 0 rfl rfl 0 (by decide) (hts _ m_X11_count_0) (fun _ h9 => h9) rfl dX11_count_113 ?_
    refine va_get (D := (dC, dI)) (ci := 8) (v := .int 0) (C := RX8) (T := TX8) (N := 17) hx hb hts i_X11_count_X8 hown hK hP 1 rfl rfl 2 (by decide) (hts _ m_X11_count_5) (fun _ h9 => h9) rfl dX11_count_116 ?_
    exact W.iret (v := 0) hx hb hr (fun t ht hW => ⟨⟨0, (), rfl, Or.inr (Or.inr (Or.inr (Or.inr (Or.inr (Or.inl (⟨rfl, rfl⟩)))))), trivial⟩, hS.F ht⟩) hS.2.2 dX11_count_119
  by_cases c7_ : p0 = 6
  · skip
    subst c7_
    refine lv_tableIn (off := 119) (tgt := 120) hx hb dX11_count_1 (by decide) (by decide) (by decide) (by decide) ?_
    refine lv_aload_n hx hb dX11_count_120 rfl (lv_at hl 0 rfl) ?_
    refine va_get (D := (dC, dI)) (ci := 11) (v := .ref (a 1)) (C := RX11) (T := TX11) (N := 11) hx hb hts i_X11_count_X11 hown hK hP 0 rfl rfl 0 (by decide) (hts _ m_X11_count_0) (fun _ h9 => h9) rfl dX11_count_121 ?_
    refine va_get (D := (dC, dI)) (ci := 8) (v := .ref (a 13)) (C := RX8) (T := TX8) (N := 17) hx hb hts i_X11_count_X8 hown hK hP 1 rfl rfl 14 (by decide) (hts _ m_X11_count_6) (fun _ h9 => h9) rfl dX11_count_124 ?_
    refine va_get (D := (dC, dI)) (ci := 6) (v := .int 0) (C := RX6) (T := TX6) (N := 4) hx hb hts i_X11_count_X6 hown hK hP 13 rfl rfl 2 (by decide) (hts _ m_X11_count_7) (fun _ h9 => h9) rfl dX11_count_127 ?_
    exact W.iret (v := 0) hx hb hr (fun t ht hW => ⟨⟨0, (), rfl, Or.inr (Or.inr (Or.inr (Or.inr (Or.inr (Or.inr (Or.inl (⟨rfl, rfl⟩))))))), trivial⟩, hS.F ht⟩) hS.2.2 dX11_count_130
  by_cases c8_ : p0 = 7
  · skip
    subst c8_
    refine lv_tableIn (off := 130) (tgt := 131) hx hb dX11_count_1 (by decide) (by decide) (by decide) (by decide) ?_
    refine lv_aload_n hx hb dX11_count_131 rfl (lv_at hl 0 rfl) ?_
    refine va_get (D := (dC, dI)) (ci := 11) (v := .ref (a 1)) (C := RX11) (T := TX11) (N := 11) hx hb hts i_X11_count_X11 hown hK hP 0 rfl rfl 0 (by decide) (hts _ m_X11_count_0) (fun _ h9 => h9) rfl dX11_count_132 ?_
    refine va_get (D := (dC, dI)) (ci := 8) (v := .ref (a 13)) (C := RX8) (T := TX8) (N := 17) hx hb hts i_X11_count_X8 hown hK hP 1 rfl rfl 14 (by decide) (hts _ m_X11_count_6) (fun _ h9 => h9) rfl dX11_count_135 ?_
    refine va_get (D := (dC, dI)) (ci := 6) (v := .int 0) (C := RX6) (T := TX6) (N := 4) hx hb hts i_X11_count_X6 hown hK hP 13 rfl rfl 3 (by decide) (hts _ m_X11_count_8) (fun _ h9 => h9) rfl dX11_count_138 ?_
    exact W.iret (v := 0) hx hb hr (fun t ht hW => ⟨⟨0, (), rfl, Or.inr (Or.inr (Or.inr (Or.inr (Or.inr (Or.inr (Or.inr (Or.inl (⟨rfl, rfl⟩)))))))), trivial⟩, hS.F ht⟩) hS.2.2 dX11_count_141
  by_cases c9_ : p0 = 8
  · skip
    subst c9_
    refine lv_tableIn (off := 141) (tgt := 142) hx hb dX11_count_1 (by decide) (by decide) (by decide) (by decide) ?_
    refine lv_aload_n hx hb dX11_count_142 rfl (lv_at hl 0 rfl) ?_
    refine va_get (D := (dC, dI)) (ci := 11) (v := .ref (a 1)) (C := RX11) (T := TX11) (N := 11) hx hb hts i_X11_count_X11 hown hK hP 0 rfl rfl 0 (by decide) (hts _ m_X11_count_0) (fun _ h9 => h9) rfl dX11_count_143 ?_
    refine va_get (D := (dC, dI)) (ci := 8) (v := .ref (a 13)) (C := RX8) (T := TX8) (N := 17) hx hb hts i_X11_count_X8 hown hK hP 1 rfl rfl 14 (by decide) (hts _ m_X11_count_6) (fun _ h9 => h9) rfl dX11_count_146 ?_
    refine va_get (D := (dC, dI)) (ci := 6) (v := .int 0) (C := RX6) (T := TX6) (N := 4) hx hb hts i_X11_count_X6 hown hK hP 13 rfl rfl 1 (by decide) (hts _ m_X11_count_9) (fun _ h9 => h9) rfl dX11_count_149 ?_
    exact W.iret (v := 0) hx hb hr (fun t ht hW => ⟨⟨0, (), rfl, Or.inr (Or.inr (Or.inr (Or.inr (Or.inr (Or.inr (Or.inr (Or.inr (Or.inl (⟨rfl, rfl⟩))))))))), trivial⟩, hS.F ht⟩) hS.2.2 dX11_count_152
  by_cases c10_ : p0 = 9
  · skip
    subst c10_
    refine lv_tableIn (off := 152) (tgt := 153) hx hb dX11_count_1 (by decide) (by decide) (by decide) (by decide) ?_
    refine lv_aload_n hx hb dX11_count_153 rfl (lv_at hl 0 rfl) ?_
    refine va_get (D := (dC, dI)) (ci := 11) (v := .ref (a 1)) (C := RX11) (T := TX11) (N := 11) hx hb hts i_X11_count_X11 hown hK hP 0 rfl rfl 0 (by decide) (hts _ m_X11_count_0) (fun _ h9 => h9) rfl dX11_count_154 ?_
    refine va_get (D := (dC, dI)) (ci := 8) (v := .ref (a 15)) (C := RX8) (T := TX8) (N := 17) hx hb hts i_X11_count_X8 hown hK hP 1 rfl rfl 15 (by decide) (hts _ m_X11_count_10) (fun _ h9 => h9) rfl dX11_count_157 ?_
    refine va_get (D := (dC, dI)) (ci := 2) (v := .int 0) (C := RX2) (T := TX2) (N := 4) hx hb hts i_X11_count_X2 hown hK hP 15 rfl rfl 2 (by decide) (hts _ m_X11_count_11) (fun _ h9 => h9) rfl dX11_count_160 ?_
    exact W.iret (v := 0) hx hb hr (fun t ht hW => ⟨⟨0, (), rfl, Or.inr (Or.inr (Or.inr (Or.inr (Or.inr (Or.inr (Or.inr (Or.inr (Or.inr (Or.inl (⟨rfl, rfl⟩)))))))))), trivial⟩, hS.F ht⟩) hS.2.2 dX11_count_163
  by_cases c11_ : p0 = 10
  · skip
    subst c11_
    refine lv_tableIn (off := 163) (tgt := 164) hx hb dX11_count_1 (by decide) (by decide) (by decide) (by decide) ?_
    refine lv_aload_n hx hb dX11_count_164 rfl (lv_at hl 0 rfl) ?_
    refine va_get (D := (dC, dI)) (ci := 11) (v := .ref (a 1)) (C := RX11) (T := TX11) (N := 11) hx hb hts i_X11_count_X11 hown hK hP 0 rfl rfl 0 (by decide) (hts _ m_X11_count_0) (fun _ h9 => h9) rfl dX11_count_165 ?_
    refine va_get (D := (dC, dI)) (ci := 8) (v := .ref (a 18)) (C := RX8) (T := TX8) (N := 17) hx hb hts i_X11_count_X8 hown hK hP 1 rfl rfl 16 (by decide) (hts _ m_X11_count_12) (fun _ h9 => h9) rfl dX11_count_168 ?_
    refine va_get (D := (dC, dI)) (ci := 2) (v := .int 0) (C := RX2) (T := TX2) (N := 4) hx hb hts i_X11_count_X2 hown hK hP 18 rfl rfl 2 (by decide) (hts _ m_X11_count_11) (fun _ h9 => h9) rfl dX11_count_171 ?_
    exact W.iret (v := 0) hx hb hr (fun t ht hW => ⟨⟨0, (), rfl, Or.inr (Or.inr (Or.inr (Or.inr (Or.inr (Or.inr (Or.inr (Or.inr (Or.inr (Or.inr (Or.inl (⟨rfl, rfl⟩))))))))))), trivial⟩, hS.F ht⟩) hS.2.2 dX11_count_174
  by_cases c12_ : p0 = 11
  · skip
    subst c12_
    refine lv_tableIn (off := 174) (tgt := 175) hx hb dX11_count_1 (by decide) (by decide) (by decide) (by decide) ?_
    refine lv_aload_n hx hb dX11_count_175 rfl (lv_at hl 0 rfl) ?_
    refine va_get (D := (dC, dI)) (ci := 11) (v := .ref (a 28)) (C := RX11) (T := TX11) (N := 11) hx hb hts i_X11_count_X11 hown hK hP 0 rfl rfl 4 (by decide) (hts _ m_X11_count_13) (fun _ h9 => h9) rfl dX11_count_176 ?_
    refine tk_pi (va_runV (As := []) (rest := []) ⟨hx, hb, hml, hown, hts⟩ (c_X3_steps l dC dI cy a g) (cwV 0 hts g_X11_count_X3_steps_288 rfl rfl rfl (by decide +kernel) ⟨Nat.le_of_ble_eq_true rfl, Nat.le_of_ble_eq_true rfl⟩) (pv_pp hC hP (ci := 3) (q0 := 28) rfl rfl) rfl rfl hl.1 rfl (lv_room (Nat.le_of_ble_eq_true rfl)) dX11_count_179 ⟨Nat.le_of_ble_eq_true rfl, Nat.le_of_ble_eq_true rfl⟩) hP hS (fun r_ H locs hw hP hS => ?_)
    subst hw
    exact W.iret (v := 0) hx hb hr (fun t ht hW => ⟨⟨0, (), rfl, Or.inr (Or.inr (Or.inr (Or.inr (Or.inr (Or.inr (Or.inr (Or.inr (Or.inr (Or.inr (Or.inr (Or.inl (⟨rfl, rfl⟩)))))))))))), trivial⟩, hS.F ht⟩) hS.2.2 dX11_count_182
  by_cases c13_ : p0 = 12
  · skip
    subst c13_
    refine lv_tableIn (off := 182) (tgt := 183) hx hb dX11_count_1 (by decide) (by decide) (by decide) (by decide) ?_
    refine lv_aload_n hx hb dX11_count_183 rfl (lv_at hl 0 rfl) ?_
    refine va_get (D := (dC, dI)) (ci := 11) (v := .ref (a 32)) (C := RX11) (T := TX11) (N := 11) hx hb hts i_X11_count_X11 hown hK hP 0 rfl rfl 7 (by decide) (hts _ m_X11_count_14) (fun _ h9 => h9) rfl dX11_count_184 ?_
    refine tk_pi (va_runV (As := []) (rest := []) ⟨hx, hb, hml, hown, hts⟩ (c_X1_kept l dC dI cy a g) (cwV 0 hts g_X11_count_X1_kept_190 rfl rfl rfl (by decide +kernel) ⟨Nat.le_of_ble_eq_true rfl, Nat.le_of_ble_eq_true rfl⟩) (pv_pp hC hP (ci := 1) (q0 := 32) rfl rfl) rfl rfl hl.1 rfl (lv_room (Nat.le_of_ble_eq_true rfl)) dX11_count_187 ⟨Nat.le_of_ble_eq_true rfl, Nat.le_of_ble_eq_true rfl⟩) hP hS (fun r_ H locs hw hP hS => ?_)
    subst hw
    exact W.iret (v := 0) hx hb hr (fun t ht hW => ⟨⟨0, (), rfl, Or.inr (Or.inr (Or.inr (Or.inr (Or.inr (Or.inr (Or.inr (Or.inr (Or.inr (Or.inr (Or.inr (Or.inr (Or.inl (⟨rfl, rfl⟩))))))))))))), trivial⟩, hS.F ht⟩) hS.2.2 dX11_count_190
  by_cases c14_ : p0 = 13
  · skip
    subst c14_
    refine lv_tableIn (off := 190) (tgt := 191) hx hb dX11_count_1 (by decide) (by decide) (by decide) (by decide) ?_
    refine lv_aload_n hx hb dX11_count_191 rfl (lv_at hl 0 rfl) ?_
    refine va_get (D := (dC, dI)) (ci := 11) (v := .ref (a 24)) (C := RX11) (T := TX11) (N := 11) hx hb hts i_X11_count_X11 hown hK hP 0 rfl rfl 3 (by decide) (hts _ m_X11_count_15) (fun _ h9 => h9) rfl dX11_count_192 ?_
    refine tk_pi (va_runV (As := []) (rest := []) ⟨hx, hb, hml, hown, hts⟩ (c_X9_length l dC dI cy a g) (cwV 0 hts g_X11_count_X9_length_291 rfl rfl rfl (by decide +kernel) ⟨Nat.le_of_ble_eq_true rfl, Nat.le_of_ble_eq_true rfl⟩) (pv_pp hC hP (ci := 9) (q0 := 24) rfl rfl) rfl rfl hl.1 rfl (lv_room (Nat.le_of_ble_eq_true rfl)) dX11_count_195 ⟨Nat.le_of_ble_eq_true rfl, Nat.le_of_ble_eq_true rfl⟩) hP hS (fun r_ H locs hw hP hS => ?_)
    subst hw
    exact W.iret (v := 0) hx hb hr (fun t ht hW => ⟨⟨0, (), rfl, Or.inr (Or.inr (Or.inr (Or.inr (Or.inr (Or.inr (Or.inr (Or.inr (Or.inr (Or.inr (Or.inr (Or.inr (Or.inr (Or.inl (⟨rfl, rfl⟩)))))))))))))), trivial⟩, hS.F ht⟩) hS.2.2 dX11_count_198
  have e15_ : p0.toInt < 0 ∨ 13 < p0.toInt := by
    have z0_ := tz_neq_r c1_ (show (0 : Int32).toInt = 0 by decide)
    have z1_ := tz_neq_r c2_ (show (1 : Int32).toInt = 1 by decide)
    have z2_ := tz_neq_r c3_ (show (2 : Int32).toInt = 2 by decide)
    have z3_ := tz_neq_r c4_ (show (3 : Int32).toInt = 3 by decide)
    have z4_ := tz_neq_r c5_ (show (4 : Int32).toInt = 4 by decide)
    have z5_ := tz_neq_r c6_ (show (5 : Int32).toInt = 5 by decide)
    have z6_ := tz_neq_r c7_ (show (6 : Int32).toInt = 6 by decide)
    have z7_ := tz_neq_r c8_ (show (7 : Int32).toInt = 7 by decide)
    have z8_ := tz_neq_r c9_ (show (8 : Int32).toInt = 8 by decide)
    have z9_ := tz_neq_r c10_ (show (9 : Int32).toInt = 9 by decide)
    have z10_ := tz_neq_r c11_ (show (10 : Int32).toInt = 10 by decide)
    have z11_ := tz_neq_r c12_ (show (11 : Int32).toInt = 11 by decide)
    have z12_ := tz_neq_r c13_ (show (12 : Int32).toInt = 12 by decide)
    have z13_ := tz_neq_r c14_ (show (13 : Int32).toInt = 13 by decide)
    omega
  refine lv_tableOut (tgt := 199) hx hb dX11_count_1 e15_ (by decide) ?_
  refine lv_iload_n hx hb dX11_count_199 rfl (lv_at hl 1 rfl) ?_
  refine lv_bipush (v := 14) hx hb dX11_count_200 (by decide) ?_
  refine lv_icmp_lt (tgt := 223) hx hb dX11_count_202 (by decide) (fun c16_ => ?_) (fun c16_ => ?_)
  · skip
    refine lv_iconst (v := (-1)) hx hb dX11_count_223 (by decide) ?_
    exact W.iret (v := (-1)) hx hb hr (fun t ht hW => ⟨⟨(-1), (), rfl, Or.inr (Or.inr (Or.inr (Or.inr (Or.inr (Or.inr (Or.inr (Or.inr (Or.inr (Or.inr (Or.inr (Or.inr (Or.inr (Or.inr (Or.inl (⟨c1_, c2_, c3_, c4_, c5_, c6_, c7_, c8_, c9_, c10_, c11_, c12_, c13_, c14_, c16_, rfl⟩))))))))))))))), trivial⟩, hS.F ht⟩) hS.2.2 dX11_count_224
  · skip
    refine lv_iload_n hx hb dX11_count_205 rfl (lv_at hl 1 rfl) ?_
    refine lv_bipush (v := 21) hx hb dX11_count_206 (by decide) ?_
    refine lv_icmp_ge (tgt := 223) hx hb dX11_count_208 (by decide) (fun c17_ => ?_) (fun c17_ => ?_)
    · skip
      refine lv_iconst (v := (-1)) hx hb dX11_count_223 (by decide) ?_
      exact W.iret (v := (-1)) hx hb hr (fun t ht hW => ⟨⟨(-1), (), rfl, Or.inr (Or.inr (Or.inr (Or.inr (Or.inr (Or.inr (Or.inr (Or.inr (Or.inr (Or.inr (Or.inr (Or.inr (Or.inr (Or.inr (Or.inr (Or.inl (⟨c1_, c2_, c3_, c4_, c5_, c6_, c7_, c8_, c9_, c10_, c11_, c12_, c13_, c14_, c16_, c17_, rfl⟩)))))))))))))))), trivial⟩, hS.F ht⟩) hS.2.2 dX11_count_224
    · skip
      refine lv_aload_n hx hb dX11_count_211 rfl (lv_at hl 0 rfl) ?_
      refine va_get (D := (dC, dI)) (ci := 11) (v := .ref (a 55)) (C := RX11) (T := TX11) (N := 11) hx hb hts i_X11_count_X11 hown hK hP 0 rfl rfl 8 (by decide) (hts _ m_X11_count_16) (fun _ h9 => h9) rfl dX11_count_212 ?_
      refine lv_iload_n hx hb dX11_count_215 rfl (lv_at hl 1 rfl) ?_
      refine lv_bipush (v := 14) hx hb dX11_count_216 (by decide) ?_
      refine lv_isub hx hb dX11_count_218 ?_
      refine va_iald hx hb hK hP 55 0 rfl rfl (sub_in (show (14 : Int32).toInt = 14 by decide) (by decide) (by have z0_ := tz_neq_r c1_ (show (0 : Int32).toInt = 0 by decide); have z1_ := tz_neq_r c2_ (show (1 : Int32).toInt = 1 by decide); have z2_ := tz_neq_r c3_ (show (2 : Int32).toInt = 2 by decide); have z3_ := tz_neq_r c4_ (show (3 : Int32).toInt = 3 by decide); have z4_ := tz_neq_r c5_ (show (4 : Int32).toInt = 4 by decide); have z5_ := tz_neq_r c6_ (show (5 : Int32).toInt = 5 by decide); have z6_ := tz_neq_r c7_ (show (6 : Int32).toInt = 6 by decide); have z7_ := tz_neq_r c8_ (show (7 : Int32).toInt = 7 by decide); have z8_ := tz_neq_r c9_ (show (8 : Int32).toInt = 8 by decide); have z9_ := tz_neq_r c10_ (show (9 : Int32).toInt = 9 by decide); have z10_ := tz_neq_r c11_ (show (10 : Int32).toInt = 10 by decide); have z11_ := tz_neq_r c12_ (show (11 : Int32).toInt = 11 by decide); have z12_ := tz_neq_r c13_ (show (12 : Int32).toInt = 12 by decide); have z13_ := tz_neq_r c14_ (show (13 : Int32).toInt = 13 by decide); have z14_ := tz_nlt_r c16_ (show (14 : Int32).toInt = 14 by decide); have z15_ := tz_nle_l c17_ (show (21 : Int32).toInt = 21 by decide); omega) (by have z0_ := tz_neq_r c1_ (show (0 : Int32).toInt = 0 by decide); have z1_ := tz_neq_r c2_ (show (1 : Int32).toInt = 1 by decide); have z2_ := tz_neq_r c3_ (show (2 : Int32).toInt = 2 by decide); have z3_ := tz_neq_r c4_ (show (3 : Int32).toInt = 3 by decide); have z4_ := tz_neq_r c5_ (show (4 : Int32).toInt = 4 by decide); have z5_ := tz_neq_r c6_ (show (5 : Int32).toInt = 5 by decide); have z6_ := tz_neq_r c7_ (show (6 : Int32).toInt = 6 by decide); have z7_ := tz_neq_r c8_ (show (7 : Int32).toInt = 7 by decide); have z8_ := tz_neq_r c9_ (show (8 : Int32).toInt = 8 by decide); have z9_ := tz_neq_r c10_ (show (9 : Int32).toInt = 9 by decide); have z10_ := tz_neq_r c11_ (show (10 : Int32).toInt = 10 by decide); have z11_ := tz_neq_r c12_ (show (11 : Int32).toInt = 11 by decide); have z12_ := tz_neq_r c13_ (show (12 : Int32).toInt = 12 by decide); have z13_ := tz_neq_r c14_ (show (13 : Int32).toInt = 13 by decide); have z14_ := tz_nlt_r c16_ (show (14 : Int32).toInt = 14 by decide); have z15_ := tz_nle_l c17_ (show (21 : Int32).toInt = 21 by decide); omega)) dX11_count_219 ?_
      refine tk_i 0 (by rfl) ?_
      refine lv_goto (tgt := 224) hx hb dX11_count_220 (by decide) ?_
      exact W.iret (v := 0) hx hb hr (fun t ht hW => ⟨⟨0, (), rfl, Or.inr (Or.inr (Or.inr (Or.inr (Or.inr (Or.inr (Or.inr (Or.inr (Or.inr (Or.inr (Or.inr (Or.inr (Or.inr (Or.inr (Or.inr (Or.inr (⟨c1_, c2_, c3_, c4_, c5_, c6_, c7_, c8_, c9_, c10_, c11_, c12_, c13_, c14_, c16_, c17_, rfl⟩)))))))))))))))), trivial⟩, hS.F ht⟩) hS.2.2 dX11_count_224

