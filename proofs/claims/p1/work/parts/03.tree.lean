theorem m_X10_has_1 : (.fieldLink RX10 17 "RestBoard$Tree" "now" "LRestBoard$State;" : Cond) ∈ wsX10_has := List.mem_of_getElem? (i := 1) (by decide +kernel)
theorem m_X10_has_2 : (.fieldLink RX10 26 "RestBoard$State" "size" "I" : Cond) ∈ wsX10_has := List.mem_of_getElem? (i := 2) (by decide +kernel)
theorem i_X10_has_X10 : ∀ w ∈ u_ws RX10 TX10 2, w ∈ wsX10_has := fun w h => List.mem_cons_of_mem _ (List.mem_append_left _ (List.mem_append_right _ h))
theorem i_X10_has_X8 : ∀ w ∈ u_ws RX8 TX8 17, w ∈ wsX10_has := fun w h => List.mem_cons_of_mem _ (List.mem_append_right _ h)
theorem m_X10_is_1 : (.fieldLink RX10 11 "RestBoard$Tree" "nodes" "[LRestBoard$Node;" : Cond) ∈ wsX10_is := List.mem_of_getElem? (i := 1) (by decide +kernel)
theorem m_X10_is_2 : (.fieldLink RX10 36 "RestBoard$Node" "kind" "I" : Cond) ∈ wsX10_is := List.mem_of_getElem? (i := 2) (by decide +kernel)
theorem i_X10_is_X10 : ∀ w ∈ u_ws RX10 TX10 2, w ∈ wsX10_is := fun w h => List.mem_cons_of_mem _ (List.mem_append_left _ (List.mem_append_left _ (List.mem_append_right _ h)))
theorem i_X10_is_X4 : ∀ w ∈ u_ws RX4 TX4 14, w ∈ wsX10_is := fun w h => List.mem_cons_of_mem _ (List.mem_append_left _ (List.mem_append_right _ h))
set_option maxHeartbeats 4000000 in
set_option maxRecDepth 100000 in
theorem c_X10_has (l : Launch) (dC : Nat → ClassId) (dI : Nat → Nat → Nat) (cy : Nat → ClassId) (a : Nat → Nat) (g : Nat → Nat → Option Nat) (p0 : Int32) : Met l yX10_has wsX10_has ({ frames := 0, cells := 0, slots := 0, locals := 0 }) (va_Pc [.ref (a 21), .int p0] (pp dC dI cy (fw a cy g))) (va_Qi (fun (r : Int32) (_ : Unit) => ((p0 < 0) ∧ r = 0) ∨ ((¬ p0 < 0) ∧ ((1 : Int32) ≤ p0) ∧ r = 0) ∨ ((p0 = 0) ∧ r = 1)) (fun _ _ => True) (fun _ => False)) 0 0 (fun _ => False) := by
  refine Met.ofW (cc := cX10_has) (maxL := 2) (ret := (some .boolean)) (by decide) rfl ?_
  intro p e s m args below meth c s₁ B hml hv
  obtain ⟨rfl, hP, hC⟩ := hv
  have hK := hC.1
  have hx := B.exec
  have hb := B.bytes
  have hr := B.returns
  have hts := atoms_spec (ws := wsX10_has) B.pre
  have hown : s.vm.findClass RX10 = some m.cls := findClass_of_methodNamed B.named
  have hlocks := B.notSynchronized
  have hS : va_S (fun _ => False) s.heap s.heap [] := va_S.rf
  have hl := lv_entry ([.ref (a 21), .int p0]) (n := 2) (Nat.le_of_ble_eq_true rfl)
  rw [lg_entry_eq]
  generalize (lg_sl ([.ref (a 21), .int p0]) ++ List.replicate (2 - (lg_sl ([.ref (a 21), .int p0])).length) Slot.unset).toArray = ls at hl ⊢
  have hl : lv_has ls 2 [(0, .ref (a 21)), (1, .int p0)] := hl
  refine lv_iload_n hx hb dX10_has_0 rfl (lv_at hl 1 rfl) ?_
  refine lv_if_lt (tgt := 19) hx hb dX10_has_1 (by decide) (fun c1_ => ?_) (fun c1_ => ?_)
  · skip
    refine lv_iconst (v := 0) hx hb dX10_has_19 (by decide) ?_
    exact W.zret (v := 0) (ty := .boolean) hx hb hr rfl (fun t ht hW => ⟨⟨0, (), rfl, Or.inl (⟨c1_, rfl⟩), trivial⟩, hS.F ht⟩) hS.2.2 dX10_has_20
  · skip
    refine lv_iload_n hx hb dX10_has_4 rfl (lv_at hl 1 rfl) ?_
    refine lv_aload_n hx hb dX10_has_5 rfl (lv_at hl 0 rfl) ?_
    refine va_get (D := (dC, dI)) (ci := 10) (v := .ref (a 1)) (C := RX10) (T := TX10) (N := 2) hx hb hts i_X10_has_X10 hown hK hP 21 rfl rfl 1 (by decide) (hts _ m_X10_has_1) (fun _ h9 => h9) rfl dX10_has_6 ?_
    refine va_get (D := (dC, dI)) (ci := 8) (v := .int 1) (C := RX8) (T := TX8) (N := 17) hx hb hts i_X10_has_X8 hown hK hP 1 rfl rfl 0 (by decide) (hts _ m_X10_has_2) (fun _ h9 => h9) rfl dX10_has_9 ?_
    refine lv_icmp_ge (tgt := 19) hx hb dX10_has_12 (by decide) (fun c2_ => ?_) (fun c2_ => ?_)
    · skip
      refine lv_iconst (v := 0) hx hb dX10_has_19 (by decide) ?_
      exact W.zret (v := 0) (ty := .boolean) hx hb hr rfl (fun t ht hW => ⟨⟨0, (), rfl, Or.inr (Or.inl (⟨c1_, c2_, rfl⟩)), trivial⟩, hS.F ht⟩) hS.2.2 dX10_has_20
    · skip
      have e3_ : p0 = 0 := by
        have z0_ := tz_nlt_r c1_ (show (0 : Int32).toInt = 0 by decide)
        have z1_ := tz_nle_l c2_ (show (1 : Int32).toInt = 1 by decide)
        exact tz_pin (show (0 : Int32).toInt = 0 by decide) (by omega)
      subst e3_
      refine lv_iconst (v := 1) hx hb dX10_has_15 (by decide) ?_
      refine lv_goto (tgt := 20) hx hb dX10_has_16 (by decide) ?_
      exact W.zret (v := 1) (ty := .boolean) hx hb hr rfl (fun t ht hW => ⟨⟨1, (), rfl, Or.inr (Or.inr (⟨rfl, rfl⟩)), trivial⟩, hS.F ht⟩) hS.2.2 dX10_has_20

set_option maxHeartbeats 4000000 in
set_option maxRecDepth 100000 in
theorem c_X10_is (l : Launch) (dC : Nat → ClassId) (dI : Nat → Nat → Nat) (cy : Nat → ClassId) (a : Nat → Nat) (g : Nat → Nat → Option Nat) (p0 p1 : Int32) : Met l yX10_is wsX10_is ({ frames := 1, cells := 0, slots := 0, locals := 21 }) (va_Pc [.ref (a 21), .int p0, .int p1] (pp dC dI cy (fw a cy g))) (va_Qi (fun (r : Int32) (_ : Unit) => ((p0 < 0) ∧ r = 0) ∨ ((¬ p0 < 0) ∧ ((1 : Int32) ≤ p0) ∧ r = 0) ∨ ((p0 = 0) ∧ (¬ (1 : Int32) = p1) ∧ r = 0) ∨ ((p0 = 0) ∧ (p1 = 1) ∧ r = 1)) (fun _ _ => True) (fun _ => False)) 0 0 (fun _ => False) := by
  refine Met.ofW (cc := cX10_is) (maxL := 3) (ret := (some .boolean)) (by decide) rfl ?_
  intro p e s m args below meth c s₁ B hml hv
  obtain ⟨rfl, hP, hC⟩ := hv
  have hK := hC.1
  have hx := B.exec
  have hb := B.bytes
  have hr := B.returns
  have hts := atoms_spec (ws := wsX10_is) B.pre
  have hown : s.vm.findClass RX10 = some m.cls := findClass_of_methodNamed B.named
  have hlocks := B.notSynchronized
  have hS : va_S (fun _ => False) s.heap s.heap [] := va_S.rf
  have hl := lv_entry ([.ref (a 21), .int p0, .int p1]) (n := 3) (Nat.le_of_ble_eq_true rfl)
  rw [lg_entry_eq]
  generalize (lg_sl ([.ref (a 21), .int p0, .int p1]) ++ List.replicate (3 - (lg_sl ([.ref (a 21), .int p0, .int p1])).length) Slot.unset).toArray = ls at hl ⊢
  have hl : lv_has ls 3 [(0, .ref (a 21)), (1, .int p0), (2, .int p1)] := hl
  refine lv_aload_n hx hb dX10_is_0 rfl (lv_at hl 0 rfl) ?_
  refine lv_iload_n hx hb dX10_is_1 rfl (lv_at hl 1 rfl) ?_
  refine tk_pi (va_runV (As := [.int p0]) (rest := []) ⟨hx, hb, hml, hown, hts⟩ (c_X10_has l dC dI cy a g p0) (cwV 1 hts gX10_is_X10_has rfl rfl rfl (by decide +kernel) ⟨Nat.le_of_ble_eq_true rfl, Nat.le_of_ble_eq_true rfl⟩) (pv_pp hC hP (ci := 10) (q0 := 21) rfl rfl) rfl rfl hl.1 rfl (lv_room (Nat.le_of_ble_eq_true rfl)) dX10_is_2 ⟨Nat.le_of_ble_eq_true rfl, Nat.le_of_ble_eq_true rfl⟩) hP hS (fun r_ H locs hw hP hS => ?_)
  rcases hw with ⟨c1_, rfl⟩ | ⟨c2_, c3_, rfl⟩ | ⟨c4_, rfl⟩
  · skip
    refine lv_if_eq (tgt := 25) hx hb dX10_is_5 (by decide) (fun _ => ?_) (fun c9_ => absurd (by decide) c9_)
    refine lv_iconst (v := 0) hx hb dX10_is_25 (by decide) ?_
    exact W.zret (v := 0) (ty := .boolean) hx hb hr rfl (fun t ht hW => ⟨⟨0, (), rfl, Or.inl (⟨c1_, rfl⟩), trivial⟩, hS.F ht⟩) hS.2.2 dX10_is_26
  · skip
    refine lv_if_eq (tgt := 25) hx hb dX10_is_5 (by decide) (fun _ => ?_) (fun c9_ => absurd (by decide) c9_)
    refine lv_iconst (v := 0) hx hb dX10_is_25 (by decide) ?_
    exact W.zret (v := 0) (ty := .boolean) hx hb hr rfl (fun t ht hW => ⟨⟨0, (), rfl, Or.inr (Or.inl (⟨c2_, c3_, rfl⟩)), trivial⟩, hS.F ht⟩) hS.2.2 dX10_is_26
  · skip
    subst c4_
    refine lv_if_eq (tgt := 25) hx hb dX10_is_5 (by decide) (fun c9_ => absurd c9_ (by decide)) (fun _ => ?_)
    refine lv_aload_n hx hb dX10_is_8 rfl (lv_at hl 0 rfl) ?_
    refine va_get (D := (dC, dI)) (ci := 10) (v := .ref (a 22)) (C := RX10) (T := TX10) (N := 2) hx hb hts i_X10_is_X10 hown hK hP 21 rfl rfl 0 (by decide) (hts _ m_X10_is_1) (fun _ h9 => h9) rfl dX10_is_9 ?_
    refine lv_iload_n hx hb dX10_is_12 rfl (lv_at hl 1 rfl) ?_
    refine va_aldq hx hb hK hP 22 1 rfl rfl (by decide) dX10_is_13 ?_
    refine tk_v (.ref (a 23)) (by rfl) ?_
    refine va_get (D := (dC, dI)) (ci := 4) (v := .int 1) (C := RX4) (T := TX4) (N := 14) hx hb hts i_X10_is_X4 hown hK hP 23 rfl rfl 0 (by decide) (hts _ m_X10_is_2) (fun _ h9 => h9) rfl dX10_is_14 ?_
    refine lv_iload_n hx hb dX10_is_17 rfl (lv_at hl 2 rfl) ?_
    refine lv_icmp_ne (tgt := 25) hx hb dX10_is_18 (by decide) (fun c5_ => ?_) (fun c5_ => ?_)
    · skip
      refine lv_iconst (v := 0) hx hb dX10_is_25 (by decide) ?_
      exact W.zret (v := 0) (ty := .boolean) hx hb hr rfl (fun t ht hW => ⟨⟨0, (), rfl, Or.inr (Or.inr (Or.inl (⟨rfl, c5_, rfl⟩))), trivial⟩, hS.F ht⟩) hS.2.2 dX10_is_26
    · skip
      have e6_ : p1 = 1 := by
        have z0_ := tz_eq_l c5_ (show (1 : Int32).toInt = 1 by decide)
        exact tz_pin (show (1 : Int32).toInt = 1 by decide) (by omega)
      subst e6_
      refine lv_iconst (v := 1) hx hb dX10_is_21 (by decide) ?_
      refine lv_goto (tgt := 26) hx hb dX10_is_22 (by decide) ?_
      exact W.zret (v := 1) (ty := .boolean) hx hb hr rfl (fun t ht hW => ⟨⟨1, (), rfl, Or.inr (Or.inr (Or.inr (⟨rfl, rfl, rfl⟩))), trivial⟩, hS.F ht⟩) hS.2.2 dX10_is_26

