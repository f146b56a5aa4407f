theorem rg2_num {x y : Int32} (h1 : ¬ x < 0) (h2 : ¬ 4 < x) (h3 : ¬ y < 0) (h4 : ¬ 7 < y) : ∃ i j : Nat, i ≤ 4 ∧ j ≤ 7 ∧ 3266 + 8 * x + y = nI (3266 + 8 * i + j) := by
  obtain ⟨i, hi, e1⟩ := nI_of2 (M := 4) (n := 4) (by decide) h1 (Int32.not_lt.mp h2)
  obtain ⟨j, hj, e2⟩ := nI_of2 (x := y) (M := 7) (n := 7) (by decide) h3 (Int32.not_lt.mp h4)
  refine ⟨i, j, hi, hj, ?_⟩
  rw [e1, e2, show (3266 : Int32) = nI 3266 from rfl, show (8 : Int32) = nI 8 from rfl, pk_mul, nI_add, nI_add]
theorem rg2_in {x y : Int32} (h1 : ¬ x < 0) (h2 : ¬ 4 < x) (h3 : ¬ y < 0) (h4 : ¬ 7 < y) : vp_in (3266 + 8 * x + y) 3408 := by
  obtain ⟨i, j, hi, hj, e⟩ := rg2_num h1 h2 h3 h4
  rw [e]
  exact vp_in_nI (by omega) (by decide)
theorem rg2_val {x y : Int32} (h1 : ¬ x < 0) (h2 : ¬ 4 < x) (h3 : ¬ y < 0) (h4 : ¬ 7 < y) : (upd (upd (upd (fun _ => 0) 3264 1) 0 1) 2 (-1)) (Int32.toNatClampNeg (3266 + 8 * x + y)) = 0 := by
  obtain ⟨i, j, hi, hj, e⟩ := rg2_num h1 h2 h3 h4
  rw [e, nI_clamp (by omega)]
  simp only [upd]
  rw [if_neg (by omega), if_neg (by omega), if_neg (by omega)]
section TKV
variable {p : Program} {l : Launch} {e : Env} {R : Room} {s : State} {m : MethodId} {args : Array Value} {below : List Frame} {meth : Method} {c : Code} {H : Heap} {locs : List Loc} {cells slots : Nat} {Q : State → Prop}
variable {pc : Nat} {ls : Array Slot} {rest st0 : List Value} {a : Array Value} {A0 : Nat → Prop} {H0 : Heap} {ws : va_W}
theorem tk_pv {D : va_G} {cl : List vw_C} {post : Unit → Prop} (hr : va_Run p l e R s m args below meth c H locs cells slots 0 0 (F0 m pc ls st0) rest (va_Qv post (fun _ _ => True) (fun _ => False) a) (fun _ => False)) (hP : va_P D cl ws H) (hS : va_S A0 H0 H locs) (kk : ∀ (H1 : Heap) (locs1 : List Loc), post () → va_P D cl ws H1 → va_S A0 H0 H1 locs1 → W p l e R s m args below meth c H1 locs1 cells slots Q (F0 m (pc + 3) ls rest)) : W p l e R s m args below meth c H locs cells slots Q (F0 m pc ls st0) :=
  va_callv hr hS (fun _ _ h => h.elim) (fun _ h => h.elim) (fun _ _ H1 locs1 _ _ hw _ _ hk hS1 => kk H1 locs1 hw (hP.kept (fun k q hq => hk q.1 (hP k q hq).lt (fun h => h))) hS1)
end TKV

def mw (b : Nat → Nat) (cy : Nat → ClassId) : va_W := [(b 0, .inr (12, [.int 0, .int 0, .ref (b 1), .ref (b 2), .ref (b 3), .ref (b 4), .int 0, .ref (b 5), .ref (b 6), .int 0, .int 0, .int 0, .int (-1), .int 0, .ref (b 7), .ref (b 20), .int 0, .ref (b 21), .ref (b 22), .int 0, .int 0, .ref (b 23), .int 0, .int 0, .int 0, .int 0, .ref (b 24), .ref (b 25), .ref (b 26), .int 0, .ref (b 27), .int 0, .ref (b 28), .ref (b 29), .ref (b 30), .ref (b 31), .ref (b 32), .ref (b 33), .ref (b 34), .int 0, .int 0, .int 0, .int 0, .int 0, .int 0, .ref (b 35), .ref (b 36), .ref (b 37), .int 0, .int 0, .int 0, .ref (b 38), .int 0, .int 0, .ref (b 39), .ref (b 40), .ref (b 41), .ref (b 42), .int 0])),
  (b 1, .inl (cy 0, 8, .inl (fun _ => 0))),
  (b 2, .inl (cy 0, 3408, .inl (upd (upd (upd (fun _ => 0) 3264 1) 0 1) 2 (-1)))),
  (b 3, .inl (cy 0, 27264, .inl (fun _ => 0))),
  (b 4, .inl (cy 0, 8, .inl (fun _ => 0))),
  (b 5, .inl (cy 0, 3408, .inl (fun _ => 0))),
  (b 6, .inl (cy 0, 400, .inl (fun _ => 0))),
  (b 7, .inl (cy 0, 32, .inl (fun _ => 0)))]
theorem dX12_in_0 : decode cX12_in 0 = .ok (.lload_n 0, 1) := by decide +kernel
theorem dX12_in_1 : decode cX12_in 1 = .ok (.lload_n 2, 1) := by decide +kernel
theorem dX12_in_2 : decode cX12_in 2 = .ok (.lcmp, 1) := by decide +kernel
theorem dX12_in_3 : decode cX12_in 3 = .ok (.ifCond .lt 14, 3) := by decide +kernel
theorem dX12_in_6 : decode cX12_in 6 = .ok (.lload_n 0, 1) := by decide +kernel
theorem dX12_in_7 : decode cX12_in 7 = .ok (.lload 4, 2) := by decide +kernel
theorem dX12_in_9 : decode cX12_in 9 = .ok (.lcmp, 1) := by decide +kernel
theorem dX12_in_10 : decode cX12_in 10 = .ok (.ifCond .gt 7, 3) := by decide +kernel
theorem dX12_in_13 : decode cX12_in 13 = .ok (.iconst 1, 1) := by decide +kernel
theorem dX12_in_14 : decode cX12_in 14 = .ok (.goto 4, 3) := by decide +kernel
theorem dX12_in_17 : decode cX12_in 17 = .ok (.iconst 0, 1) := by decide +kernel
theorem dX12_in_18 : decode cX12_in 18 = .ok (.ireturn, 1) := by decide +kernel
def v_X12_in : List Cond := .code yX12_in cX12_in 6 (some .boolean) :: ([])
set_option maxHeartbeats 4000000 in
set_option maxRecDepth 100000 in
theorem c_X12_in (l : Launch) (dC : Nat → ClassId) (dI : Nat → Nat → Nat) (cy : Nat → ClassId)  (p0 p1 p2 : Int32) : Met l yX12_in v_X12_in ({ frames := 0, cells := 0, slots := 0, locals := 0 }) (va_Pc [.long (Int32.toInt64 p0), .long (Int32.toInt64 p1), .long (Int32.toInt64 p2)] (pp dC dI cy ([]))) (va_Qi (fun (r : Int32) (_ : Unit) => ((p0 < p1) ∧ r = 0) ∨ ((¬ p0 < p1) ∧ (p2 < p0) ∧ r = 0) ∨ ((¬ p0 < p1) ∧ (¬ p2 < p0) ∧ r = 1)) (fun _ _ => True) (fun _ => False)) 0 0 (fun _ => False) := by
  refine Met.ofW (cc := cX12_in) (maxL := 6) (ret := (some .boolean)) (by decide) rfl ?_
  intro p e s m args below meth c s₁ B hml hv
  obtain ⟨rfl, hP, hC⟩ := hv
  have hK := hC.1
  have hx := B.exec
  have hb := B.bytes
  have hr := B.returns
  have hts := atoms_spec (ws := v_X12_in) B.pre
  have hown : s.vm.findClass RX12 = some m.cls := findClass_of_methodNamed B.named
  have hlocks := B.notSynchronized
  have hS : va_S (fun _ => False) s.heap s.heap [] := va_S.rf
  have hl := lv_entry ([.long (Int32.toInt64 p0), .long (Int32.toInt64 p1), .long (Int32.toInt64 p2)]) (n := 6) (Nat.le_of_ble_eq_true rfl)
  rw [lg_entry_eq]
  generalize (lg_sl ([.long (Int32.toInt64 p0), .long (Int32.toInt64 p1), .long (Int32.toInt64 p2)]) ++ List.replicate (6 - (lg_sl ([.long (Int32.toInt64 p0), .long (Int32.toInt64 p1), .long (Int32.toInt64 p2)])).length) Slot.unset).toArray = ls at hl ⊢
  have hl : lv_has ls 6 [(0, .long (Int32.toInt64 p0)), (2, .long (Int32.toInt64 p1)), (4, .long (Int32.toInt64 p2))] := hl
  refine lv_lload_n hx hb dX12_in_0 rfl (lv_at hl 0 rfl) ?_
  refine lv_lload_n hx hb dX12_in_1 rfl (lv_at hl 1 rfl) ?_
  refine W.lcmp hx hb dX12_in_2 ?_
  refine lv_if_lt (tgt := 17) hx hb dX12_in_3 (by decide) (fun c1_x => ?_) (fun c1_x => ?_)
  · skip
    have c1_ := lgc_lt.mp c1_x
    refine lv_iconst (v := 0) hx hb dX12_in_17 (by decide) ?_
    exact W.zret (v := 0) (ty := .boolean) hx hb hr rfl (fun t ht hW => ⟨⟨0, (), rfl, Or.inl (⟨c1_, rfl⟩), trivial⟩, hS.F ht⟩) hS.2.2 dX12_in_18
  · skip
    have c1_ := fun q => c1_x (lgc_lt.mpr q)
    refine lv_lload_n hx hb dX12_in_6 rfl (lv_at hl 0 rfl) ?_
    refine lv_lload hx hb dX12_in_7 (lv_at hl 2 rfl) ?_
    refine W.lcmp hx hb dX12_in_9 ?_
    refine lv_if_gt (tgt := 17) hx hb dX12_in_10 (by decide) (fun c2_x => ?_) (fun c2_x => ?_)
    · skip
      have c2_ := lgc_gt.mp c2_x
      refine lv_iconst (v := 0) hx hb dX12_in_17 (by decide) ?_
      exact W.zret (v := 0) (ty := .boolean) hx hb hr rfl (fun t ht hW => ⟨⟨0, (), rfl, Or.inr (Or.inl (⟨c1_, c2_, rfl⟩)), trivial⟩, hS.F ht⟩) hS.2.2 dX12_in_18
    · skip
      have c2_ := fun q => c2_x (lgc_gt.mpr q)
      refine lv_iconst (v := 1) hx hb dX12_in_13 (by decide) ?_
      refine lv_goto (tgt := 18) hx hb dX12_in_14 (by decide) ?_
      exact W.zret (v := 1) (ty := .boolean) hx hb hr rfl (fun t ht hW => ⟨⟨1, (), rfl, Or.inr (Or.inr (⟨c1_, c2_, rfl⟩)), trivial⟩, hS.F ht⟩) hS.2.2 dX12_in_18

theorem dX12_at_0 : decode cX12_at 0 = .ok (.bipush 102, 2) := by decide +kernel
theorem dX12_at_2 : decode cX12_at 2 = .ok (.iload_n 0, 1) := by decide +kernel
theorem dX12_at_3 : decode cX12_at 3 = .ok (.imul, 1) := by decide +kernel
theorem dX12_at_4 : decode cX12_at 4 = .ok (.ireturn, 1) := by decide +kernel
def v_X12_at : List Cond := .code yX12_at cX12_at 1 (some .int) :: ([])
set_option maxHeartbeats 4000000 in
set_option maxRecDepth 100000 in
theorem c_X12_at (l : Launch) (dC : Nat → ClassId) (dI : Nat → Nat → Nat) (cy : Nat → ClassId)  (p0 : Int32) : Met l yX12_at v_X12_at ({ frames := 0, cells := 0, slots := 0, locals := 0 }) (va_Pc [.int p0] (pp dC dI cy ([]))) (va_Qi (fun (r : Int32) (_ : Unit) => r = ((102 : Int32) * p0)) (fun _ _ => True) (fun _ => False)) 0 0 (fun _ => False) := by
  refine Met.ofW (cc := cX12_at) (maxL := 1) (ret := (some .int)) (by decide) rfl ?_
  intro p e s m args below meth c s₁ B hml hv
  obtain ⟨rfl, hP, hC⟩ := hv
  have hK := hC.1
  have hx := B.exec
  have hb := B.bytes
  have hr := B.returns
  have hts := atoms_spec (ws := v_X12_at) B.pre
  have hown : s.vm.findClass RX12 = some m.cls := findClass_of_methodNamed B.named
  have hlocks := B.notSynchronized
  have hS : va_S (fun _ => False) s.heap s.heap [] := va_S.rf
  have hl := lv_entry ([.int p0]) (n := 1) (Nat.le_of_ble_eq_true rfl)
  rw [lg_entry_eq]
  generalize (lg_sl ([.int p0]) ++ List.replicate (1 - (lg_sl ([.int p0])).length) Slot.unset).toArray = ls at hl ⊢
  have hl : lv_has ls 1 [(0, .int p0)] := hl
  refine lv_bipush (v := 102) hx hb dX12_at_0 (by decide) ?_
  refine lv_iload_n hx hb dX12_at_2 rfl (lv_at hl 0 rfl) ?_
  refine lv_imul hx hb dX12_at_3 ?_
  exact W.iret (v := ((102 : Int32) * p0)) hx hb hr (fun t ht hW => ⟨⟨((102 : Int32) * p0), (), rfl, rfl, trivial⟩, hS.F ht⟩) hS.2.2 dX12_at_4

theorem dX12_isName_0 : decode cX12_isName 0 = .ok (.iload_n 0, 1) := by decide +kernel
theorem dX12_isName_1 : decode cX12_isName 1 = .ok (.bipush 97, 2) := by decide +kernel
theorem dX12_isName_3 : decode cX12_isName 3 = .ok (.if_icmp .lt 13, 3) := by decide +kernel
theorem dX12_isName_6 : decode cX12_isName 6 = .ok (.iload_n 0, 1) := by decide +kernel
theorem dX12_isName_7 : decode cX12_isName 7 = .ok (.bipush 122, 2) := by decide +kernel
theorem dX12_isName_9 : decode cX12_isName 9 = .ok (.if_icmp .gt 7, 3) := by decide +kernel
theorem dX12_isName_12 : decode cX12_isName 12 = .ok (.iconst 1, 1) := by decide +kernel
theorem dX12_isName_13 : decode cX12_isName 13 = .ok (.goto 4, 3) := by decide +kernel
theorem dX12_isName_16 : decode cX12_isName 16 = .ok (.iconst 0, 1) := by decide +kernel
theorem dX12_isName_17 : decode cX12_isName 17 = .ok (.ireturn, 1) := by decide +kernel
def v_X12_isName : List Cond := .code yX12_isName cX12_isName 1 (some .boolean) :: ([])
set_option maxHeartbeats 4000000 in
set_option maxRecDepth 100000 in
theorem c_X12_isName (l : Launch) (dC : Nat → ClassId) (dI : Nat → Nat → Nat) (cy : Nat → ClassId)  (p0 : Int32) : Met l yX12_isName v_X12_isName ({ frames := 0, cells := 0, slots := 0, locals := 0 }) (va_Pc [.int p0] (pp dC dI cy ([]))) (va_Qi (fun (r : Int32) (_ : Unit) => ((p0 < 97) ∧ r = 0) ∨ ((¬ p0 < 97) ∧ ((122 : Int32) < p0) ∧ r = 0) ∨ ((¬ p0 < 97) ∧ (¬ (122 : Int32) < p0) ∧ r = 1)) (fun _ _ => True) (fun _ => False)) 0 0 (fun _ => False) := by
  refine Met.ofW (cc := cX12_isName) (maxL := 1) (ret := (some .boolean)) (by decide) rfl ?_
  intro p e s m args below meth c s₁ B hml hv
  obtain ⟨rfl, hP, hC⟩ := hv
  have hK := hC.1
  have hx := B.exec
  have hb := B.bytes
  have hr := B.returns
  have hts := atoms_spec (ws := v_X12_isName) B.pre
  have hown : s.vm.findClass RX12 = some m.cls := findClass_of_methodNamed B.named
  have hlocks := B.notSynchronized
  have hS : va_S (fun _ => False) s.heap s.heap [] := va_S.rf
  have hl := lv_entry ([.int p0]) (n := 1) (Nat.le_of_ble_eq_true rfl)
  rw [lg_entry_eq]
  generalize (lg_sl ([.int p0]) ++ List.replicate (1 - (lg_sl ([.int p0])).length) Slot.unset).toArray = ls at hl ⊢
  have hl : lv_has ls 1 [(0, .int p0)] := hl
  refine lv_iload_n hx hb dX12_isName_0 rfl (lv_at hl 0 rfl) ?_
  refine lv_bipush (v := 97) hx hb dX12_isName_1 (by decide) ?_
  refine lv_icmp_lt (tgt := 16) hx hb dX12_isName_3 (by decide) (fun c1_ => ?_) (fun c1_ => ?_)
  · skip
    refine lv_iconst (v := 0) hx hb dX12_isName_16 (by decide) ?_
    exact W.zret (v := 0) (ty := .boolean) hx hb hr rfl (fun t ht hW => ⟨⟨0, (), rfl, Or.inl (⟨c1_, rfl⟩), trivial⟩, hS.F ht⟩) hS.2.2 dX12_isName_17
  · skip
    refine lv_iload_n hx hb dX12_isName_6 rfl (lv_at hl 0 rfl) ?_
    refine lv_bipush (v := 122) hx hb dX12_isName_7 (by decide) ?_
    refine lv_icmp_gt (tgt := 16) hx hb dX12_isName_9 (by decide) (fun c2_ => ?_) (fun c2_ => ?_)
    · skip
      refine lv_iconst (v := 0) hx hb dX12_isName_16 (by decide) ?_
      exact W.zret (v := 0) (ty := .boolean) hx hb hr rfl (fun t ht hW => ⟨⟨0, (), rfl, Or.inr (Or.inl (⟨c1_, c2_, rfl⟩)), trivial⟩, hS.F ht⟩) hS.2.2 dX12_isName_17
    · skip
      refine lv_iconst (v := 1) hx hb dX12_isName_12 (by decide) ?_
      refine lv_goto (tgt := 17) hx hb dX12_isName_13 (by decide) ?_
      exact W.zret (v := 1) (ty := .boolean) hx hb hr rfl (fun t ht hW => ⟨⟨1, (), rfl, Or.inr (Or.inr (⟨c1_, c2_, rfl⟩)), trivial⟩, hS.F ht⟩) hS.2.2 dX12_isName_17

theorem dX12_isValue_0 : decode cX12_isValue 0 = .ok (.iload_n 0, 1) := by decide +kernel
theorem dX12_isValue_1 : decode cX12_isValue 1 = .ok (.ifCond .lt 14, 3) := by decide +kernel
theorem dX12_isValue_4 : decode cX12_isValue 4 = .ok (.iload_n 0, 1) := by decide +kernel
theorem dX12_isValue_5 : decode cX12_isValue 5 = .ok (.ldc_w 415, 3) := by decide +kernel
theorem dX12_isValue_8 : decode cX12_isValue 8 = .ok (.if_icmp .ge 7, 3) := by decide +kernel
theorem dX12_isValue_11 : decode cX12_isValue 11 = .ok (.iconst 1, 1) := by decide +kernel
theorem dX12_isValue_12 : decode cX12_isValue 12 = .ok (.goto 4, 3) := by decide +kernel
theorem dX12_isValue_15 : decode cX12_isValue 15 = .ok (.iconst 0, 1) := by decide +kernel
theorem dX12_isValue_16 : decode cX12_isValue 16 = .ok (.ireturn, 1) := by decide +kernel
def v_X12_isValue : List Cond := .code yX12_isValue cX12_isValue 1 (some .boolean) :: ([.constant RX12 415 (65536)])
theorem m_X12_isValue_0 : (.constant RX12 415 (65536) : Cond) ∈ v_X12_isValue := List.mem_of_getElem? (i := 1) (by decide +kernel)
set_option maxHeartbeats 4000000 in
set_option maxRecDepth 100000 in
theorem c_X12_isValue (l : Launch) (dC : Nat → ClassId) (dI : Nat → Nat → Nat) (cy : Nat → ClassId)  (p0 : Int32) : Met l yX12_isValue v_X12_isValue ({ frames := 0, cells := 0, slots := 0, locals := 0 }) (va_Pc [.int p0] (pp dC dI cy ([]))) (va_Qi (fun (r : Int32) (_ : Unit) => ((p0 < 0) ∧ r = 0) ∨ ((¬ p0 < 0) ∧ ((65536 : Int32) ≤ p0) ∧ r = 0) ∨ ((¬ p0 < 0) ∧ (¬ (65536 : Int32) ≤ p0) ∧ r = 1)) (fun _ _ => True) (fun _ => False)) 0 0 (fun _ => False) := by
  refine Met.ofW (cc := cX12_isValue) (maxL := 1) (ret := (some .boolean)) (by decide) rfl ?_
  intro p e s m args below meth c s₁ B hml hv
  obtain ⟨rfl, hP, hC⟩ := hv
  have hK := hC.1
  have hx := B.exec
  have hb := B.bytes
  have hr := B.returns
  have hts := atoms_spec (ws := v_X12_isValue) B.pre
  have hown : s.vm.findClass RX12 = some m.cls := findClass_of_methodNamed B.named
  have hlocks := B.notSynchronized
  have hS : va_S (fun _ => False) s.heap s.heap [] := va_S.rf
  have hl := lv_entry ([.int p0]) (n := 1) (Nat.le_of_ble_eq_true rfl)
  rw [lg_entry_eq]
  generalize (lg_sl ([.int p0]) ++ List.replicate (1 - (lg_sl ([.int p0])).length) Slot.unset).toArray = ls at hl ⊢
  have hl : lv_has ls 1 [(0, .int p0)] := hl
  refine lv_iload_n hx hb dX12_isValue_0 rfl (lv_at hl 0 rfl) ?_
  refine lv_if_lt (tgt := 15) hx hb dX12_isValue_1 (by decide) (fun c1_ => ?_) (fun c1_ => ?_)
  · skip
    refine lv_iconst (v := 0) hx hb dX12_isValue_15 (by decide) ?_
    exact W.zret (v := 0) (ty := .boolean) hx hb hr rfl (fun t ht hW => ⟨⟨0, (), rfl, Or.inl (⟨c1_, rfl⟩), trivial⟩, hS.F ht⟩) hS.2.2 dX12_isValue_16
  · skip
    refine lv_iload_n hx hb dX12_isValue_4 rfl (lv_at hl 0 rfl) ?_
    refine lv_ldcw (v := 65536) hx hb hown (hts _ m_X12_isValue_0) dX12_isValue_5 ?_
    refine lv_icmp_ge (tgt := 15) hx hb dX12_isValue_8 (by decide) (fun c2_ => ?_) (fun c2_ => ?_)
    · skip
      refine lv_iconst (v := 0) hx hb dX12_isValue_15 (by decide) ?_
      exact W.zret (v := 0) (ty := .boolean) hx hb hr rfl (fun t ht hW => ⟨⟨0, (), rfl, Or.inr (Or.inl (⟨c1_, c2_, rfl⟩)), trivial⟩, hS.F ht⟩) hS.2.2 dX12_isValue_16
    · skip
      refine lv_iconst (v := 1) hx hb dX12_isValue_11 (by decide) ?_
      refine lv_goto (tgt := 16) hx hb dX12_isValue_12 (by decide) ?_
      exact W.zret (v := 1) (ty := .boolean) hx hb hr rfl (fun t ht hW => ⟨⟨1, (), rfl, Or.inr (Or.inr (⟨c1_, c2_, rfl⟩)), trivial⟩, hS.F ht⟩) hS.2.2 dX12_isValue_16

theorem dX12_kind_0 : decode cX12_kind 0 = .ok (.aload_n 0, 1) := by decide +kernel
theorem dX12_kind_1 : decode cX12_kind 1 = .ok (.getfield 13, 3) := by decide +kernel
theorem dX12_kind_4 : decode cX12_kind 4 = .ok (.iload_n 1, 1) := by decide +kernel
theorem dX12_kind_5 : decode cX12_kind 5 = .ok (.invokestatic 125, 3) := by decide +kernel
theorem dX12_kind_8 : decode cX12_kind 8 = .ok (.iconst 0, 1) := by decide +kernel
theorem dX12_kind_9 : decode cX12_kind 9 = .ok (.iadd, 1) := by decide +kernel
theorem dX12_kind_10 : decode cX12_kind 10 = .ok (.iaload, 1) := by decide +kernel
theorem dX12_kind_11 : decode cX12_kind 11 = .ok (.ireturn, 1) := by decide +kernel
def v_X12_kind : List Cond := .code yX12_kind cX12_kind 2 (some .int) :: ([.fieldLink RX12 13 "RestBoardModel" "row" "[I", .methodLink RX12 125 yX12_at, .static yX12_at, .initialized RX12, .code yX12_at cX12_at 1 (some .int)] ++ wsX120)
theorem m_X12_kind_0 : (.fieldLink RX12 13 "RestBoardModel" "row" "[I" : Cond) ∈ v_X12_kind := List.mem_of_getElem? (i := 1) (by decide +kernel)
theorem i_X12_kind_X12 : ∀ w ∈ u_ws RX12 TX12 59, w ∈ v_X12_kind := fun w h => List.mem_cons_of_mem _ (List.mem_append_right _ h)
set_option maxRecDepth 100000 in
theorem gg_X12_kind_X12_at_125 : GoodIn v_X12_kind v_X12_at := goodIn_r _ [5] (by decide +kernel) (by decide +kernel)
set_option maxRecDepth 100000 in
theorem g_X12_kind_X12_at_125 : GoodIn v_X12_kind (va_wsS RX12 125 yX12_at v_X12_at) := goodIn_app (goodIn_r _ [2, 3, 4] (by decide +kernel) (by decide +kernel)) gg_X12_kind_X12_at_125
set_option maxHeartbeats 4000000 in
set_option maxRecDepth 100000 in
theorem c_X12_kind_0 (l : Launch) (dC : Nat → ClassId) (dI : Nat → Nat → Nat) (cy : Nat → ClassId) (b : Nat → Nat) : Met l yX12_kind v_X12_kind ({ frames := 1, cells := 0, slots := 0, locals := 20 }) (va_Pc [.ref (b 0), .int 0] (pp dC dI cy (mw b cy))) (va_Qi (fun (r : Int32) (_ : Unit) => r = 1) (fun _ _ => True) (fun _ => False)) 0 0 (fun _ => False) := by
  refine Met.ofW (cc := cX12_kind) (maxL := 2) (ret := (some .int)) (by decide) rfl ?_
  intro p e s m args below meth c s₁ B hml hv
  obtain ⟨rfl, hP, hC⟩ := hv
  have hK := hC.1
  have hx := B.exec
  have hb := B.bytes
  have hr := B.returns
  have hts := atoms_spec (ws := v_X12_kind) B.pre
  have hown : s.vm.findClass RX12 = some m.cls := findClass_of_methodNamed B.named
  have hlocks := B.notSynchronized
  have hS : va_S (fun _ => False) s.heap s.heap [] := va_S.rf
  have hl := lv_entry ([.ref (b 0), .int 0]) (n := 2) (Nat.le_of_ble_eq_true rfl)
  rw [lg_entry_eq]
  generalize (lg_sl ([.ref (b 0), .int 0]) ++ List.replicate (2 - (lg_sl ([.ref (b 0), .int 0])).length) Slot.unset).toArray = ls at hl ⊢
  have hl : lv_has ls 2 [(0, .ref (b 0)), (1, .int 0)] := hl
  refine lv_aload_n hx hb dX12_kind_0 rfl (lv_at hl 0 rfl) ?_
  refine va_get (D := (dC, dI)) (ci := 12) (v := .ref (b 2)) (C := RX12) (T := TX12) (N := 59) hx hb hts i_X12_kind_X12 hown hK hP 0 rfl rfl 3 (by decide) (hts _ m_X12_kind_0) (fun _ h9 => h9) rfl dX12_kind_1 ?_
  refine lv_iload_n hx hb dX12_kind_4 rfl (lv_at hl 1 rfl) ?_
  refine tk_pi (va_runS (As := [.int 0]) (rest := [.ref (b 2)]) ⟨hx, hb, hml, hown, hts⟩ (c_X12_at l dC dI cy  0) (va_cwS 1 hts g_X12_kind_X12_at_125 rfl rfl rfl (by decide +kernel) ⟨Nat.le_of_ble_eq_true rfl, Nat.le_of_ble_eq_true rfl⟩) (pS_pp hC va_P0) rfl rfl hl.1 rfl (lv_room (Nat.le_of_ble_eq_true rfl)) dX12_kind_5 ⟨Nat.le_of_ble_eq_true rfl, Nat.le_of_ble_eq_true rfl⟩) hP hS (fun r_ H locs hw hP hS => ?_)
  subst hw
  refine lv_iconst (v := 0) hx hb dX12_kind_8 (by decide) ?_
  refine lv_iadd hx hb dX12_kind_9 ?_
  refine tk_i 0 (by decide) ?_
  refine va_iald hx hb hK hP 2 0 rfl rfl (show ¬ ((0 : Int32) < 0 ∨ 3408 ≤ Int32.toNatClampNeg 0) by decide) dX12_kind_10 ?_
  refine tk_i 1 (by rfl) ?_
  exact W.iret (v := 1) hx hb hr (fun t ht hW => ⟨⟨1, (), rfl, rfl, trivial⟩, hS.F ht⟩) hS.2.2 dX12_kind_11

theorem dX12_isNode_0 : decode cX12_isNode 0 = .ok (.iload_n 1, 1) := by decide +kernel
theorem dX12_isNode_1 : decode cX12_isNode 1 = .ok (.i2l, 1) := by decide +kernel
theorem dX12_isNode_2 : decode cX12_isNode 2 = .ok (.lconst 0, 1) := by decide +kernel
theorem dX12_isNode_3 : decode cX12_isNode 3 = .ok (.aload_n 0, 1) := by decide +kernel
theorem dX12_isNode_4 : decode cX12_isNode 4 = .ok (.getfield 13, 3) := by decide +kernel
theorem dX12_isNode_7 : decode cX12_isNode 7 = .ok (.sipush 3264, 3) := by decide +kernel
theorem dX12_isNode_10 : decode cX12_isNode 10 = .ok (.iaload, 1) := by decide +kernel
theorem dX12_isNode_11 : decode cX12_isNode 11 = .ok (.i2l, 1) := by decide +kernel
theorem dX12_isNode_12 : decode cX12_isNode 12 = .ok (.lconst 1, 1) := by decide +kernel
theorem dX12_isNode_13 : decode cX12_isNode 13 = .ok (.lsub, 1) := by decide +kernel
theorem dX12_isNode_14 : decode cX12_isNode 14 = .ok (.invokestatic 128, 3) := by decide +kernel
theorem dX12_isNode_17 : decode cX12_isNode 17 = .ok (.ireturn, 1) := by decide +kernel
def v_X12_isNode : List Cond := .code yX12_isNode cX12_isNode 2 (some .boolean) :: ([.fieldLink RX12 13 "RestBoardModel" "row" "[I", .methodLink RX12 128 yX12_in, .static yX12_in, .initialized RX12, .code yX12_in cX12_in 6 (some .boolean)] ++ wsX120)
theorem m_X12_isNode_0 : (.fieldLink RX12 13 "RestBoardModel" "row" "[I" : Cond) ∈ v_X12_isNode := List.mem_of_getElem? (i := 1) (by decide +kernel)
theorem i_X12_isNode_X12 : ∀ w ∈ u_ws RX12 TX12 59, w ∈ v_X12_isNode := fun w h => List.mem_cons_of_mem _ (List.mem_append_right _ h)
set_option maxRecDepth 100000 in
theorem gg_X12_isNode_X12_in_128 : GoodIn v_X12_isNode v_X12_in := goodIn_r _ [5] (by decide +kernel) (by decide +kernel)
set_option maxRecDepth 100000 in
theorem g_X12_isNode_X12_in_128 : GoodIn v_X12_isNode (va_wsS RX12 128 yX12_in v_X12_in) := goodIn_app (goodIn_r _ [2, 3, 4] (by decide +kernel) (by decide +kernel)) gg_X12_isNode_X12_in_128
set_option maxHeartbeats 4000000 in
set_option maxRecDepth 100000 in
theorem c_X12_isNode (l : Launch) (dC : Nat → ClassId) (dI : Nat → Nat → Nat) (cy : Nat → ClassId) (b : Nat → Nat) (p0 : Int32) : Met l yX12_isNode v_X12_isNode ({ frames := 1, cells := 0, slots := 0, locals := 25 }) (va_Pc [.ref (b 0), .int p0] (pp dC dI cy (mw b cy))) (va_Qi (fun (r : Int32) (_ : Unit) => ((p0 < 0) ∧ r = 0) ∨ ((¬ p0 < 0) ∧ ((0 : Int32) < p0) ∧ r = 0) ∨ ((p0 = 0) ∧ r = 1)) (fun _ _ => True) (fun _ => False)) 0 0 (fun _ => False) := by
  refine Met.ofW (cc := cX12_isNode) (maxL := 2) (ret := (some .boolean)) (by decide) rfl ?_
  intro p e s m args below meth c s₁ B hml hv
  obtain ⟨rfl, hP, hC⟩ := hv
  have hK := hC.1
  have hx := B.exec
  have hb := B.bytes
  have hr := B.returns
  have hts := atoms_spec (ws := v_X12_isNode) B.pre
  have hown : s.vm.findClass RX12 = some m.cls := findClass_of_methodNamed B.named
  have hlocks := B.notSynchronized
  have hS : va_S (fun _ => False) s.heap s.heap [] := va_S.rf
  have hl := lv_entry ([.ref (b 0), .int p0]) (n := 2) (Nat.le_of_ble_eq_true rfl)
  rw [lg_entry_eq]
  generalize (lg_sl ([.ref (b 0), .int p0]) ++ List.replicate (2 - (lg_sl ([.ref (b 0), .int p0])).length) Slot.unset).toArray = ls at hl ⊢
  have hl : lv_has ls 2 [(0, .ref (b 0)), (1, .int p0)] := hl
  refine lv_iload_n hx hb dX12_isNode_0 rfl (lv_at hl 1 rfl) ?_
  refine lv_i2l (v := Int32.toInt64 p0) hx hb dX12_isNode_1 rfl ?_
  refine lv_lconst (v := 0) hx hb dX12_isNode_2 (by decide) ?_
  refine tk_l (Int32.toInt64 0) (by decide) ?_
  refine lv_aload_n hx hb dX12_isNode_3 rfl (lv_at hl 0 rfl) ?_
  refine va_get (D := (dC, dI)) (ci := 12) (v := .ref (b 2)) (C := RX12) (T := TX12) (N := 59) hx hb hts i_X12_isNode_X12 hown hK hP 0 rfl rfl 3 (by decide) (hts _ m_X12_isNode_0) (fun _ h9 => h9) rfl dX12_isNode_4 ?_
  refine lv_sipush (v := 3264) hx hb dX12_isNode_7 (by decide) ?_
  refine va_iald hx hb hK hP 2 0 rfl rfl (show ¬ ((3264 : Int32) < 0 ∨ 3408 ≤ Int32.toNatClampNeg 3264) by decide) dX12_isNode_10 ?_
  refine tk_i 1 (by rfl) ?_
  refine lv_i2l (v := Int32.toInt64 1) hx hb dX12_isNode_11 rfl ?_
  refine lv_lconst (v := 1) hx hb dX12_isNode_12 (by decide) ?_
  refine tk_l (Int32.toInt64 1) (by decide) ?_
  refine lv_lsub hx hb dX12_isNode_13 ?_
  refine tk_l (Int32.toInt64 0) (by decide) ?_
  refine tk_pi (va_runS (As := [.long (Int32.toInt64 p0), .long (Int32.toInt64 0), .long (Int32.toInt64 0)]) (rest := []) ⟨hx, hb, hml, hown, hts⟩ (c_X12_in l dC dI cy  p0 0 0) (va_cwS 3 hts g_X12_isNode_X12_in_128 rfl rfl rfl (by decide +kernel) ⟨Nat.le_of_ble_eq_true rfl, Nat.le_of_ble_eq_true rfl⟩) (pS_pp hC va_P0) rfl rfl hl.1 rfl (lv_room (Nat.le_of_ble_eq_true rfl)) dX12_isNode_14 ⟨Nat.le_of_ble_eq_true rfl, Nat.le_of_ble_eq_true rfl⟩) hP hS (fun r_ H locs hw hP hS => ?_)
  rcases hw with ⟨c1_, rfl⟩ | ⟨c2_, c3_, rfl⟩ | ⟨c4_, c5_, rfl⟩
  · skip
    exact W.zret (v := 0) (ty := .boolean) hx hb hr rfl (fun t ht hW => ⟨⟨0, (), rfl, Or.inl (⟨c1_, rfl⟩), trivial⟩, hS.F ht⟩) hS.2.2 dX12_isNode_17
  · skip
    exact W.zret (v := 0) (ty := .boolean) hx hb hr rfl (fun t ht hW => ⟨⟨0, (), rfl, Or.inr (Or.inl (⟨c2_, c3_, rfl⟩)), trivial⟩, hS.F ht⟩) hS.2.2 dX12_isNode_17
  · skip
    have e6_ : p0 = 0 := by
      have z0_ := tz_nlt_r c4_ (show (0 : Int32).toInt = 0 by decide)
      have z1_ := tz_nlt_l c5_ (show (0 : Int32).toInt = 0 by decide)
      exact tz_pin (show (0 : Int32).toInt = 0 by decide) (by omega)
    subst e6_
    exact W.zret (v := 1) (ty := .boolean) hx hb hr rfl (fun t ht hW => ⟨⟨1, (), rfl, Or.inr (Or.inr (⟨rfl, rfl⟩)), trivial⟩, hS.F ht⟩) hS.2.2 dX12_isNode_17

theorem dX12_isOf_0 : decode cX12_isOf 0 = .ok (.aload_n 0, 1) := by decide +kernel
theorem dX12_isOf_1 : decode cX12_isOf 1 = .ok (.iload_n 1, 1) := by decide +kernel
theorem dX12_isOf_2 : decode cX12_isOf 2 = .ok (.invokevirtual 132, 3) := by decide +kernel
theorem dX12_isOf_5 : decode cX12_isOf 5 = .ok (.ifCond .eq 16, 3) := by decide +kernel
theorem dX12_isOf_8 : decode cX12_isOf 8 = .ok (.aload_n 0, 1) := by decide +kernel
theorem dX12_isOf_9 : decode cX12_isOf 9 = .ok (.iload_n 1, 1) := by decide +kernel
theorem dX12_isOf_10 : decode cX12_isOf 10 = .ok (.invokevirtual 136, 3) := by decide +kernel
theorem dX12_isOf_13 : decode cX12_isOf 13 = .ok (.iload_n 2, 1) := by decide +kernel
theorem dX12_isOf_14 : decode cX12_isOf 14 = .ok (.if_icmp .ne 7, 3) := by decide +kernel
theorem dX12_isOf_17 : decode cX12_isOf 17 = .ok (.iconst 1, 1) := by decide +kernel
theorem dX12_isOf_18 : decode cX12_isOf 18 = .ok (.goto 4, 3) := by decide +kernel
theorem dX12_isOf_21 : decode cX12_isOf 21 = .ok (.iconst 0, 1) := by decide +kernel
theorem dX12_isOf_22 : decode cX12_isOf 22 = .ok (.ireturn, 1) := by decide +kernel
def v_X12_isOf : List Cond := .code yX12_isOf cX12_isOf 3 (some .boolean) :: ([.methodLink RX12 132 yX12_isNode, .instanceMethod yX12_isNode, .selects RX12 yX12_isNode yX12_isNode, .initialized RX12, .code yX12_isNode cX12_isNode 2 (some .boolean), .fieldLink RX12 13 "RestBoardModel" "row" "[I", .methodLink RX12 128 yX12_in, .static yX12_in, .code yX12_in cX12_in 6 (some .boolean), .methodLink RX12 136 yX12_kind, .instanceMethod yX12_kind, .selects RX12 yX12_kind yX12_kind, .code yX12_kind cX12_kind 2 (some .int), .methodLink RX12 125 yX12_at, .static yX12_at, .code yX12_at cX12_at 1 (some .int)] ++ wsX120)
set_option maxRecDepth 100000 in
theorem gg_X12_isOf_X12_isNode_132 : GoodIn v_X12_isOf v_X12_isNode := goodIn_r _ [5, 6, 7, 8, 4, 9, 17, 18, 19, 20, 21, 22, 23, 24, 25, 26, 27, 28, 29, 30, 31, 32, 33, 34, 35, 36, 37, 38, 39, 40, 41, 42, 43, 44, 45, 46, 47, 48, 49, 50, 51, 52, 53, 54, 55, 56, 57, 58, 59, 60, 61, 62, 63, 64, 65, 66, 67, 68, 69, 70, 71, 72, 73, 74, 75] (by decide +kernel) (by decide +kernel)
set_option maxRecDepth 100000 in
theorem g_X12_isOf_X12_isNode_132 : GoodIn v_X12_isOf (wsV RX12 132 RX12 yX12_isNode v_X12_isNode) := goodIn_app (goodIn_r _ [1, 2, 3, 4] (by decide +kernel) (by decide +kernel)) gg_X12_isOf_X12_isNode_132
set_option maxRecDepth 100000 in
theorem gg_X12_isOf_X12_kind_136 : GoodIn v_X12_isOf v_X12_kind := goodIn_r _ [13, 6, 14, 15, 4, 16, 17, 18, 19, 20, 21, 22, 23, 24, 25, 26, 27, 28, 29, 30, 31, 32, 33, 34, 35, 36, 37, 38, 39, 40, 41, 42, 43, 44, 45, 46, 47, 48, 49, 50, 51, 52, 53, 54, 55, 56, 57, 58, 59, 60, 61, 62, 63, 64, 65, 66, 67, 68, 69, 70, 71, 72, 73, 74, 75] (by decide +kernel) (by decide +kernel)
set_option maxRecDepth 100000 in
theorem g_X12_isOf_X12_kind_136 : GoodIn v_X12_isOf (wsV RX12 136 RX12 yX12_kind v_X12_kind) := goodIn_app (goodIn_r _ [10, 11, 12, 4] (by decide +kernel) (by decide +kernel)) gg_X12_isOf_X12_kind_136
set_option maxHeartbeats 4000000 in
set_option maxRecDepth 100000 in
theorem c_X12_isOf (l : Launch) (dC : Nat → ClassId) (dI : Nat → Nat → Nat) (cy : Nat → ClassId) (b : Nat → Nat) (p0 p1 : Int32) : Met l yX12_isOf v_X12_isOf ({ frames := 2, cells := 0, slots := 0, locals := 46 }) (va_Pc [.ref (b 0), .int p0, .int p1] (pp dC dI cy (mw b cy))) (va_Qi (fun (r : Int32) (_ : Unit) => ((p0 < 0) ∧ r = 0) ∨ ((¬ p0 < 0) ∧ ((0 : Int32) < p0) ∧ r = 0) ∨ ((p0 = 0) ∧ (¬ (1 : Int32) = p1) ∧ r = 0) ∨ ((p0 = 0) ∧ (p1 = 1) ∧ r = 1)) (fun _ _ => True) (fun _ => False)) 0 0 (fun _ => False) := by
  refine Met.ofW (cc := cX12_isOf) (maxL := 3) (ret := (some .boolean)) (by decide) rfl ?_
  intro p e s m args below meth c s₁ B hml hv
  obtain ⟨rfl, hP, hC⟩ := hv
  have hK := hC.1
  have hx := B.exec
  have hb := B.bytes
  have hr := B.returns
  have hts := atoms_spec (ws := v_X12_isOf) B.pre
  have hown : s.vm.findClass RX12 = some m.cls := findClass_of_methodNamed B.named
  have hlocks := B.notSynchronized
  have hS : va_S (fun _ => False) s.heap s.heap [] := va_S.rf
  have hl := lv_entry ([.ref (b 0), .int p0, .int p1]) (n := 3) (Nat.le_of_ble_eq_true rfl)
  rw [lg_entry_eq]
  generalize (lg_sl ([.ref (b 0), .int p0, .int p1]) ++ List.replicate (3 - (lg_sl ([.ref (b 0), .int p0, .int p1])).length) Slot.unset).toArray = ls at hl ⊢
  have hl : lv_has ls 3 [(0, .ref (b 0)), (1, .int p0), (2, .int p1)] := hl
  refine lv_aload_n hx hb dX12_isOf_0 rfl (lv_at hl 0 rfl) ?_
  refine lv_iload_n hx hb dX12_isOf_1 rfl (lv_at hl 1 rfl) ?_
  refine tk_pi (va_runV (As := [.int p0]) (rest := []) ⟨hx, hb, hml, hown, hts⟩ (c_X12_isNode l dC dI cy b p0) (cwV 1 hts g_X12_isOf_X12_isNode_132 rfl rfl rfl (by decide +kernel) ⟨Nat.le_of_ble_eq_true rfl, Nat.le_of_ble_eq_true rfl⟩) (pv_pp hC hP (ci := 12) (q0 := 0) rfl rfl) rfl rfl hl.1 rfl (lv_room (Nat.le_of_ble_eq_true rfl)) dX12_isOf_2 ⟨Nat.le_of_ble_eq_true rfl, Nat.le_of_ble_eq_true rfl⟩) hP hS (fun r_ H locs hw hP hS => ?_)
  rcases hw with ⟨c1_, rfl⟩ | ⟨c2_, c3_, rfl⟩ | ⟨c4_, rfl⟩
  · skip
    refine lv_if_eq (tgt := 21) hx hb dX12_isOf_5 (by decide) (fun _ => ?_) (fun c9_ => absurd (by decide) c9_)
    refine lv_iconst (v := 0) hx hb dX12_isOf_21 (by decide) ?_
    exact W.zret (v := 0) (ty := .boolean) hx hb hr rfl (fun t ht hW => ⟨⟨0, (), rfl, Or.inl (⟨c1_, rfl⟩), trivial⟩, hS.F ht⟩) hS.2.2 dX12_isOf_22
  · skip
    refine lv_if_eq (tgt := 21) hx hb dX12_isOf_5 (by decide) (fun _ => ?_) (fun c9_ => absurd (by decide) c9_)
    refine lv_iconst (v := 0) hx hb dX12_isOf_21 (by decide) ?_
    exact W.zret (v := 0) (ty := .boolean) hx hb hr rfl (fun t ht hW => ⟨⟨0, (), rfl, Or.inr (Or.inl (⟨c2_, c3_, rfl⟩)), trivial⟩, hS.F ht⟩) hS.2.2 dX12_isOf_22
  · skip
    subst c4_
    refine lv_if_eq (tgt := 21) hx hb dX12_isOf_5 (by decide) (fun c9_ => absurd c9_ (by decide)) (fun _ => ?_)
    refine lv_aload_n hx hb dX12_isOf_8 rfl (lv_at hl 0 rfl) ?_
    refine lv_iload_n hx hb dX12_isOf_9 rfl (lv_at hl 1 rfl) ?_
    refine tk_pi (va_runV (As := [.int 0]) (rest := []) ⟨hx, hb, hml, hown, hts⟩ (c_X12_kind_0 l dC dI cy b) (cwV 1 hts g_X12_isOf_X12_kind_136 rfl rfl rfl (by decide +kernel) ⟨Nat.le_of_ble_eq_true rfl, Nat.le_of_ble_eq_true rfl⟩) (pv_pp hC hP (ci := 12) (q0 := 0) rfl rfl) rfl rfl hl.1 rfl (lv_room (Nat.le_of_ble_eq_true rfl)) dX12_isOf_10 ⟨Nat.le_of_ble_eq_true rfl, Nat.le_of_ble_eq_true rfl⟩) hP hS (fun r_ H locs hw hP hS => ?_)
    subst hw
    refine lv_iload_n hx hb dX12_isOf_13 rfl (lv_at hl 2 rfl) ?_
    refine lv_icmp_ne (tgt := 21) hx hb dX12_isOf_14 (by decide) (fun c5_ => ?_) (fun c5_ => ?_)
    · skip
      refine lv_iconst (v := 0) hx hb dX12_isOf_21 (by decide) ?_
      exact W.zret (v := 0) (ty := .boolean) hx hb hr rfl (fun t ht hW => ⟨⟨0, (), rfl, Or.inr (Or.inr (Or.inl (⟨rfl, c5_, rfl⟩))), trivial⟩, hS.F ht⟩) hS.2.2 dX12_isOf_22
    · skip
      have e6_ : p1 = 1 := by
        have z0_ := tz_eq_l c5_ (show (1 : Int32).toInt = 1 by decide)
        exact tz_pin (show (1 : Int32).toInt = 1 by decide) (by omega)
      subst e6_
      refine lv_iconst (v := 1) hx hb dX12_isOf_17 (by decide) ?_
      refine lv_goto (tgt := 22) hx hb dX12_isOf_18 (by decide) ?_
      exact W.zret (v := 1) (ty := .boolean) hx hb hr rfl (fun t ht hW => ⟨⟨1, (), rfl, Or.inr (Or.inr (Or.inr (⟨rfl, rfl, rfl⟩))), trivial⟩, hS.F ht⟩) hS.2.2 dX12_isOf_22

theorem dX12_own_0 : decode cX12_own 0 = .ok (.iconst (-1), 1) := by decide +kernel
theorem dX12_own_1 : decode cX12_own 1 = .ok (.istore_n 3, 1) := by decide +kernel
theorem dX12_own_2 : decode cX12_own 2 = .ok (.iconst 1, 1) := by decide +kernel
theorem dX12_own_3 : decode cX12_own 3 = .ok (.istore 4, 2) := by decide +kernel
theorem dX12_own_5 : decode cX12_own 5 = .ok (.iload 4, 2) := by decide +kernel
theorem dX12_own_7 : decode cX12_own 7 = .ok (.aload_n 0, 1) := by decide +kernel
theorem dX12_own_8 : decode cX12_own 8 = .ok (.getfield 13, 3) := by decide +kernel
theorem dX12_own_11 : decode cX12_own 11 = .ok (.sipush 3264, 3) := by decide +kernel
theorem dX12_own_14 : decode cX12_own 14 = .ok (.iaload, 1) := by decide +kernel
theorem dX12_own_15 : decode cX12_own 15 = .ok (.if_icmp .ge 48, 3) := by decide +kernel
theorem dX12_own_63 : decode cX12_own 63 = .ok (.iload_n 3, 1) := by decide +kernel
theorem dX12_own_64 : decode cX12_own 64 = .ok (.ireturn, 1) := by decide +kernel
def v_X12_own : List Cond := .code yX12_own cX12_own 5 (some .int) :: ([.fieldLink RX12 13 "RestBoardModel" "row" "[I"] ++ wsX120)
theorem m_X12_own_0 : (.fieldLink RX12 13 "RestBoardModel" "row" "[I" : Cond) ∈ v_X12_own := List.mem_of_getElem? (i := 1) (by decide +kernel)
theorem i_X12_own_X12 : ∀ w ∈ u_ws RX12 TX12 59, w ∈ v_X12_own := fun w h => List.mem_cons_of_mem _ (List.mem_append_right _ h)
set_option maxHeartbeats 4000000 in
set_option maxRecDepth 100000 in
theorem c_X12_own (l : Launch) (dC : Nat → ClassId) (dI : Nat → Nat → Nat) (cy : Nat → ClassId) (b : Nat → Nat) (p0 p1 : Int32) : Met l yX12_own v_X12_own ({ frames := 0, cells := 0, slots := 0, locals := 0 }) (va_Pc [.ref (b 0), .int p0, .int p1] (pp dC dI cy (mw b cy))) (va_Qi (fun (r : Int32) (_ : Unit) => r = (-1)) (fun _ _ => True) (fun _ => False)) 0 0 (fun _ => False) := by
  refine Met.ofW (cc := cX12_own) (maxL := 5) (ret := (some .int)) (by decide) rfl ?_
  intro p e s m args below meth c s₁ B hml hv
  obtain ⟨rfl, hP, hC⟩ := hv
  have hK := hC.1
  have hx := B.exec
  have hb := B.bytes
  have hr := B.returns
  have hts := atoms_spec (ws := v_X12_own) B.pre
  have hown : s.vm.findClass RX12 = some m.cls := findClass_of_methodNamed B.named
  have hlocks := B.notSynchronized
  have hS : va_S (fun _ => False) s.heap s.heap [] := va_S.rf
  have hl := lv_entry ([.ref (b 0), .int p0, .int p1]) (n := 5) (Nat.le_of_ble_eq_true rfl)
  rw [lg_entry_eq]
  generalize (lg_sl ([.ref (b 0), .int p0, .int p1]) ++ List.replicate (5 - (lg_sl ([.ref (b 0), .int p0, .int p1])).length) Slot.unset).toArray = ls at hl ⊢
  have hl : lv_has ls 5 [(0, .ref (b 0)), (1, .int p0), (2, .int p1)] := hl
  refine lv_iconst (v := (-1)) hx hb dX12_own_0 (by decide) ?_
  refine lv_istore_n (lv' := [(3, .int (-1)), (0, .ref (b 0)), (1, .int p0), (2, .int p1)]) hx hb dX12_own_1 rfl hl (by decide) rfl (fun ls hl => ?_)
  refine lv_iconst (v := 1) hx hb dX12_own_2 (by decide) ?_
  refine lv_istore (lv' := [(4, .int 1), (3, .int (-1)), (0, .ref (b 0)), (1, .int p0), (2, .int p1)]) hx hb dX12_own_3 hl (by decide) rfl (fun ls hl => ?_)
  refine lv_iload hx hb dX12_own_5 (lv_at hl 0 rfl) ?_
  refine lv_aload_n hx hb dX12_own_7 rfl (lv_at hl 2 rfl) ?_
  refine va_get (D := (dC, dI)) (ci := 12) (v := .ref (b 2)) (C := RX12) (T := TX12) (N := 59) hx hb hts i_X12_own_X12 hown hK hP 0 rfl rfl 3 (by decide) (hts _ m_X12_own_0) (fun _ h9 => h9) rfl dX12_own_8 ?_
  refine lv_sipush (v := 3264) hx hb dX12_own_11 (by decide) ?_
  refine va_iald hx hb hK hP 2 0 rfl rfl (show ¬ ((3264 : Int32) < 0 ∨ 3408 ≤ Int32.toNatClampNeg 3264) by decide) dX12_own_14 ?_
  refine tk_i 1 (by rfl) ?_
  refine lv_icmp_ge (tgt := 63) hx hb dX12_own_15 (by decide) (fun _ => ?_) (fun c9_ => absurd (by decide) c9_)
  refine lv_iload_n hx hb dX12_own_63 rfl (lv_at hl 1 rfl) ?_
  exact W.iret (v := (-1)) hx hb hr (fun t ht hW => ⟨⟨(-1), (), rfl, rfl, trivial⟩, hS.F ht⟩) hS.2.2 dX12_own_64

theorem dX12_ownOf_0 : decode cX12_ownOf 0 = .ok (.aload_n 0, 1) := by decide +kernel
theorem dX12_ownOf_1 : decode cX12_ownOf 1 = .ok (.iload_n 1, 1) := by decide +kernel
theorem dX12_ownOf_2 : decode cX12_ownOf 2 = .ok (.iload_n 2, 1) := by decide +kernel
theorem dX12_ownOf_3 : decode cX12_ownOf 3 = .ok (.invokevirtual 139, 3) := by decide +kernel
theorem dX12_ownOf_6 : decode cX12_ownOf 6 = .ok (.istore 4, 2) := by decide +kernel
theorem dX12_ownOf_8 : decode cX12_ownOf 8 = .ok (.iload 4, 2) := by decide +kernel
theorem dX12_ownOf_10 : decode cX12_ownOf 10 = .ok (.iconst (-1), 1) := by decide +kernel
theorem dX12_ownOf_11 : decode cX12_ownOf 11 = .ok (.if_icmp .eq 18, 3) := by decide +kernel
theorem dX12_ownOf_29 : decode cX12_ownOf 29 = .ok (.iconst (-1), 1) := by decide +kernel
theorem dX12_ownOf_30 : decode cX12_ownOf 30 = .ok (.ireturn, 1) := by decide +kernel
def v_X12_ownOf : List Cond := .code yX12_ownOf cX12_ownOf 5 (some .int) :: ([.methodLink RX12 139 yX12_own, .instanceMethod yX12_own, .selects RX12 yX12_own yX12_own, .initialized RX12, .code yX12_own cX12_own 5 (some .int), .fieldLink RX12 13 "RestBoardModel" "row" "[I"] ++ wsX120)
set_option maxRecDepth 100000 in
theorem gg_X12_ownOf_X12_own_139 : GoodIn v_X12_ownOf v_X12_own := goodIn_r _ [5, 6, 7, 8, 9, 10, 11, 12, 13, 14, 15, 16, 17, 18, 19, 20, 21, 22, 23, 24, 25, 26, 27, 28, 29, 30, 31, 32, 33, 34, 35, 36, 37, 38, 39, 40, 41, 42, 43, 44, 45, 46, 47, 48, 49, 50, 51, 52, 53, 54, 55, 56, 57, 58, 59, 60, 61, 62, 63, 64, 65] (by decide +kernel) (by decide +kernel)
set_option maxRecDepth 100000 in
theorem g_X12_ownOf_X12_own_139 : GoodIn v_X12_ownOf (wsV RX12 139 RX12 yX12_own v_X12_own) := goodIn_app (goodIn_r _ [1, 2, 3, 4] (by decide +kernel) (by decide +kernel)) gg_X12_ownOf_X12_own_139
set_option maxHeartbeats 4000000 in
set_option maxRecDepth 100000 in
theorem c_X12_ownOf (l : Launch) (dC : Nat → ClassId) (dI : Nat → Nat → Nat) (cy : Nat → ClassId) (b : Nat → Nat) (p0 p1 p2 : Int32) : Met l yX12_ownOf v_X12_ownOf ({ frames := 1, cells := 0, slots := 0, locals := 24 }) (va_Pc [.ref (b 0), .int p0, .int p1, .int p2] (pp dC dI cy (mw b cy))) (va_Qi (fun (r : Int32) (_ : Unit) => r = (-1)) (fun _ _ => True) (fun _ => False)) 0 0 (fun _ => False) := by
  refine Met.ofW (cc := cX12_ownOf) (maxL := 5) (ret := (some .int)) (by decide) rfl ?_
  intro p e s m args below meth c s₁ B hml hv
  obtain ⟨rfl, hP, hC⟩ := hv
  have hK := hC.1
  have hx := B.exec
  have hb := B.bytes
  have hr := B.returns
  have hts := atoms_spec (ws := v_X12_ownOf) B.pre
  have hown : s.vm.findClass RX12 = some m.cls := findClass_of_methodNamed B.named
  have hlocks := B.notSynchronized
  have hS : va_S (fun _ => False) s.heap s.heap [] := va_S.rf
  have hl := lv_entry ([.ref (b 0), .int p0, .int p1, .int p2]) (n := 5) (Nat.le_of_ble_eq_true rfl)
  rw [lg_entry_eq]
  generalize (lg_sl ([.ref (b 0), .int p0, .int p1, .int p2]) ++ List.replicate (5 - (lg_sl ([.ref (b 0), .int p0, .int p1, .int p2])).length) Slot.unset).toArray = ls at hl ⊢
  have hl : lv_has ls 5 [(0, .ref (b 0)), (1, .int p0), (2, .int p1), (3, .int p2)] := hl
  refine lv_aload_n hx hb dX12_ownOf_0 rfl (lv_at hl 0 rfl) ?_
  refine lv_iload_n hx hb dX12_ownOf_1 rfl (lv_at hl 1 rfl) ?_
  refine lv_iload_n hx hb dX12_ownOf_2 rfl (lv_at hl 2 rfl) ?_
  refine tk_pi (va_runV (As := [.int p0, .int p1]) (rest := []) ⟨hx, hb, hml, hown, hts⟩ (c_X12_own l dC dI cy b p0 p1) (cwV 2 hts g_X12_ownOf_X12_own_139 rfl rfl rfl (by decide +kernel) ⟨Nat.le_of_ble_eq_true rfl, Nat.le_of_ble_eq_true rfl⟩) (pv_pp hC hP (ci := 12) (q0 := 0) rfl rfl) rfl rfl hl.1 rfl (lv_room (Nat.le_of_ble_eq_true rfl)) dX12_ownOf_3 ⟨Nat.le_of_ble_eq_true rfl, Nat.le_of_ble_eq_true rfl⟩) hP hS (fun r_ H locs hw hP hS => ?_)
  subst hw
  refine lv_istore (lv' := [(4, .int (-1)), (0, .ref (b 0)), (1, .int p0), (2, .int p1), (3, .int p2)]) hx hb dX12_ownOf_6 hl (by decide) rfl (fun ls hl => ?_)
  refine lv_iload hx hb dX12_ownOf_8 (lv_at hl 0 rfl) ?_
  refine lv_iconst (v := (-1)) hx hb dX12_ownOf_10 (by decide) ?_
  refine lv_icmp_eq (tgt := 29) hx hb dX12_ownOf_11 (by decide) (fun _ => ?_) (fun c9_ => absurd (by decide) c9_)
  refine lv_iconst (v := (-1)) hx hb dX12_ownOf_29 (by decide) ?_
  exact W.iret (v := (-1)) hx hb hr (fun t ht hW => ⟨⟨(-1), (), rfl, rfl, trivial⟩, hS.F ht⟩) hS.2.2 dX12_ownOf_30

theorem dX12_seek_0 : decode cX12_seek 0 = .ok (.iload_n 1, 1) := by decide +kernel
theorem dX12_seek_1 : decode cX12_seek 1 = .ok (.istore_n 3, 1) := by decide +kernel
theorem dX12_seek_2 : decode cX12_seek 2 = .ok (.aload_n 0, 1) := by decide +kernel
theorem dX12_seek_3 : decode cX12_seek 3 = .ok (.iload_n 3, 1) := by decide +kernel
theorem dX12_seek_4 : decode cX12_seek 4 = .ok (.iload_n 2, 1) := by decide +kernel
theorem dX12_seek_5 : decode cX12_seek 5 = .ok (.invokevirtual 139, 3) := by decide +kernel
theorem dX12_seek_8 : decode cX12_seek 8 = .ok (.istore 4, 2) := by decide +kernel
theorem dX12_seek_10 : decode cX12_seek 10 = .ok (.iload 4, 2) := by decide +kernel
theorem dX12_seek_12 : decode cX12_seek 12 = .ok (.iconst (-1), 1) := by decide +kernel
theorem dX12_seek_13 : decode cX12_seek 13 = .ok (.if_icmp .ne 30, 3) := by decide +kernel
theorem dX12_seek_16 : decode cX12_seek 16 = .ok (.iload_n 3, 1) := by decide +kernel
theorem dX12_seek_17 : decode cX12_seek 17 = .ok (.ifCond .eq 26, 3) := by decide +kernel
theorem dX12_seek_43 : decode cX12_seek 43 = .ok (.iload 4, 2) := by decide +kernel
theorem dX12_seek_45 : decode cX12_seek 45 = .ok (.ireturn, 1) := by decide +kernel
def v_X12_seek : List Cond := .code yX12_seek cX12_seek 5 (some .int) :: ([.methodLink RX12 139 yX12_own, .instanceMethod yX12_own, .selects RX12 yX12_own yX12_own, .initialized RX12, .code yX12_own cX12_own 5 (some .int), .fieldLink RX12 13 "RestBoardModel" "row" "[I"] ++ wsX120)
set_option maxRecDepth 100000 in
theorem gg_X12_seek_X12_own_139 : GoodIn v_X12_seek v_X12_own := goodIn_r _ [5, 6, 7, 8, 9, 10, 11, 12, 13, 14, 15, 16, 17, 18, 19, 20, 21, 22, 23, 24, 25, 26, 27, 28, 29, 30, 31, 32, 33, 34, 35, 36, 37, 38, 39, 40, 41, 42, 43, 44, 45, 46, 47, 48, 49, 50, 51, 52, 53, 54, 55, 56, 57, 58, 59, 60, 61, 62, 63, 64, 65] (by decide +kernel) (by decide +kernel)
set_option maxRecDepth 100000 in
theorem g_X12_seek_X12_own_139 : GoodIn v_X12_seek (wsV RX12 139 RX12 yX12_own v_X12_own) := goodIn_app (goodIn_r _ [1, 2, 3, 4] (by decide +kernel) (by decide +kernel)) gg_X12_seek_X12_own_139
set_option maxHeartbeats 4000000 in
set_option maxRecDepth 100000 in
theorem c_X12_seek (l : Launch) (dC : Nat → ClassId) (dI : Nat → Nat → Nat) (cy : Nat → ClassId) (b : Nat → Nat) (p1 : Int32) : Met l yX12_seek v_X12_seek ({ frames := 1, cells := 0, slots := 0, locals := 24 }) (va_Pc [.ref (b 0), .int 0, .int p1] (pp dC dI cy (mw b cy))) (va_Qi (fun (r : Int32) (_ : Unit) => r = (-1)) (fun _ _ => True) (fun _ => False)) 0 0 (fun _ => False) := by
  refine Met.ofW (cc := cX12_seek) (maxL := 5) (ret := (some .int)) (by decide) rfl ?_
  intro p e s m args below meth c s₁ B hml hv
  obtain ⟨rfl, hP, hC⟩ := hv
  have hK := hC.1
  have hx := B.exec
  have hb := B.bytes
  have hr := B.returns
  have hts := atoms_spec (ws := v_X12_seek) B.pre
  have hown : s.vm.findClass RX12 = some m.cls := findClass_of_methodNamed B.named
  have hlocks := B.notSynchronized
  have hS : va_S (fun _ => False) s.heap s.heap [] := va_S.rf
  have hl := lv_entry ([.ref (b 0), .int 0, .int p1]) (n := 5) (Nat.le_of_ble_eq_true rfl)
  rw [lg_entry_eq]
  generalize (lg_sl ([.ref (b 0), .int 0, .int p1]) ++ List.replicate (5 - (lg_sl ([.ref (b 0), .int 0, .int p1])).length) Slot.unset).toArray = ls at hl ⊢
  have hl : lv_has ls 5 [(0, .ref (b 0)), (1, .int 0), (2, .int p1)] := hl
  refine lv_iload_n hx hb dX12_seek_0 rfl (lv_at hl 1 rfl) ?_
  refine lv_istore_n (lv' := [(3, .int 0), (0, .ref (b 0)), (1, .int 0), (2, .int p1)]) hx hb dX12_seek_1 rfl hl (by decide) rfl (fun ls hl => ?_)
  refine lv_aload_n hx hb dX12_seek_2 rfl (lv_at hl 1 rfl) ?_
  refine lv_iload_n hx hb dX12_seek_3 rfl (lv_at hl 0 rfl) ?_
  refine lv_iload_n hx hb dX12_seek_4 rfl (lv_at hl 3 rfl) ?_
  refine tk_pi (va_runV (As := [.int 0, .int p1]) (rest := []) ⟨hx, hb, hml, hown, hts⟩ (c_X12_own l dC dI cy b 0 p1) (cwV 2 hts g_X12_seek_X12_own_139 rfl rfl rfl (by decide +kernel) ⟨Nat.le_of_ble_eq_true rfl, Nat.le_of_ble_eq_true rfl⟩) (pv_pp hC hP (ci := 12) (q0 := 0) rfl rfl) rfl rfl hl.1 rfl (lv_room (Nat.le_of_ble_eq_true rfl)) dX12_seek_5 ⟨Nat.le_of_ble_eq_true rfl, Nat.le_of_ble_eq_true rfl⟩) hP hS (fun r_ H locs hw hP hS => ?_)
  subst hw
  refine lv_istore (lv' := [(4, .int (-1)), (3, .int 0), (0, .ref (b 0)), (1, .int 0), (2, .int p1)]) hx hb dX12_seek_8 hl (by decide) rfl (fun ls hl => ?_)
  refine lv_iload hx hb dX12_seek_10 (lv_at hl 0 rfl) ?_
  refine lv_iconst (v := (-1)) hx hb dX12_seek_12 (by decide) ?_
  refine lv_icmp_ne (tgt := 43) hx hb dX12_seek_13 (by decide) (fun c9_ => absurd (by decide) c9_) (fun _ => ?_)
  refine lv_iload_n hx hb dX12_seek_16 rfl (lv_at hl 1 rfl) ?_
  refine lv_if_eq (tgt := 43) hx hb dX12_seek_17 (by decide) (fun _ => ?_) (fun c9_ => absurd (by decide) c9_)
  refine lv_iload hx hb dX12_seek_43 (lv_at hl 0 rfl) ?_
  exact W.iret (v := (-1)) hx hb hr (fun t ht hW => ⟨⟨(-1), (), rfl, rfl, trivial⟩, hS.F ht⟩) hS.2.2 dX12_seek_45

theorem dX12_isDevice_0 : decode cX12_isDevice 0 = .ok (.iload_n 1, 1) := by decide +kernel
theorem dX12_isDevice_1 : decode cX12_isDevice 1 = .ok (.ifCond .eq 16, 3) := by decide +kernel
theorem dX12_isDevice_4 : decode cX12_isDevice 4 = .ok (.aload_n 0, 1) := by decide +kernel
theorem dX12_isDevice_5 : decode cX12_isDevice 5 = .ok (.iload_n 1, 1) := by decide +kernel
theorem dX12_isDevice_6 : decode cX12_isDevice 6 = .ok (.iconst 1, 1) := by decide +kernel
theorem dX12_isDevice_7 : decode cX12_isDevice 7 = .ok (.invokevirtual 143, 3) := by decide +kernel
theorem dX12_isDevice_10 : decode cX12_isDevice 10 = .ok (.ifCond .eq 7, 3) := by decide +kernel
theorem dX12_isDevice_17 : decode cX12_isDevice 17 = .ok (.iconst 0, 1) := by decide +kernel
theorem dX12_isDevice_18 : decode cX12_isDevice 18 = .ok (.ireturn, 1) := by decide +kernel
def v_X12_isDevice : List Cond := .code yX12_isDevice cX12_isDevice 2 (some .boolean) :: ([.methodLink RX12 143 yX12_isOf, .instanceMethod yX12_isOf, .selects RX12 yX12_isOf yX12_isOf, .initialized RX12, .code yX12_isOf cX12_isOf 3 (some .boolean), .methodLink RX12 132 yX12_isNode, .instanceMethod yX12_isNode, .selects RX12 yX12_isNode yX12_isNode, .code yX12_isNode cX12_isNode 2 (some .boolean), .fieldLink RX12 13 "RestBoardModel" "row" "[I", .methodLink RX12 128 yX12_in, .static yX12_in, .code yX12_in cX12_in 6 (some .boolean), .methodLink RX12 136 yX12_kind, .instanceMethod yX12_kind, .selects RX12 yX12_kind yX12_kind, .code yX12_kind cX12_kind 2 (some .int), .methodLink RX12 125 yX12_at, .static yX12_at, .code yX12_at cX12_at 1 (some .int)] ++ wsX120)
set_option maxRecDepth 100000 in
theorem gg_X12_isDevice_X12_isOf_143 : GoodIn v_X12_isDevice v_X12_isOf := goodIn_r _ [5, 6, 7, 8, 4, 9, 10, 11, 12, 13, 14, 15, 16, 17, 18, 19, 20, 21, 22, 23, 24, 25, 26, 27, 28, 29, 30, 31, 32, 33, 34, 35, 36, 37, 38, 39, 40, 41, 42, 43, 44, 45, 46, 47, 48, 49, 50, 51, 52, 53, 54, 55, 56, 57, 58, 59, 60, 61, 62, 63, 64, 65, 66, 67, 68, 69, 70, 71, 72, 73, 74, 75, 76, 77, 78, 79] (by decide +kernel) (by decide +kernel)
set_option maxRecDepth 100000 in
theorem g_X12_isDevice_X12_isOf_143 : GoodIn v_X12_isDevice (wsV RX12 143 RX12 yX12_isOf v_X12_isOf) := goodIn_app (goodIn_r _ [1, 2, 3, 4] (by decide +kernel) (by decide +kernel)) gg_X12_isDevice_X12_isOf_143
set_option maxHeartbeats 4000000 in
set_option maxRecDepth 100000 in
theorem c_X12_isDevice (l : Launch) (dC : Nat → ClassId) (dI : Nat → Nat → Nat) (cy : Nat → ClassId) (b : Nat → Nat) (p0 : Int32) : Met l yX12_isDevice v_X12_isDevice ({ frames := 3, cells := 0, slots := 0, locals := 68 }) (va_Pc [.ref (b 0), .int p0] (pp dC dI cy (mw b cy))) (va_Qi (fun (r : Int32) (_ : Unit) => ((p0 = 0) ∧ r = 0) ∨ ((¬ p0 = 0) ∧ (p0 < 0) ∧ r = 0) ∨ ((¬ p0 = 0) ∧ (¬ p0 < 0) ∧ ((0 : Int32) < p0) ∧ r = 0)) (fun _ _ => True) (fun _ => False)) 0 0 (fun _ => False) := by
  refine Met.ofW (cc := cX12_isDevice) (maxL := 2) (ret := (some .boolean)) (by decide) rfl ?_
  intro p e s m args below meth c s₁ B hml hv
  obtain ⟨rfl, hP, hC⟩ := hv
  have hK := hC.1
  have hx := B.exec
  have hb := B.bytes
  have hr := B.returns
  have hts := atoms_spec (ws := v_X12_isDevice) B.pre
  have hown : s.vm.findClass RX12 = some m.cls := findClass_of_methodNamed B.named
  have hlocks := B.notSynchronized
  have hS : va_S (fun _ => False) s.heap s.heap [] := va_S.rf
  have hl := lv_entry ([.ref (b 0), .int p0]) (n := 2) (Nat.le_of_ble_eq_true rfl)
  rw [lg_entry_eq]
  generalize (lg_sl ([.ref (b 0), .int p0]) ++ List.replicate (2 - (lg_sl ([.ref (b 0), .int p0])).length) Slot.unset).toArray = ls at hl ⊢
  have hl : lv_has ls 2 [(0, .ref (b 0)), (1, .int p0)] := hl
  refine lv_iload_n hx hb dX12_isDevice_0 rfl (lv_at hl 1 rfl) ?_
  refine lv_if_eq (tgt := 17) hx hb dX12_isDevice_1 (by decide) (fun c1_ => ?_) (fun c1_ => ?_)
  · skip
    subst c1_
    refine lv_iconst (v := 0) hx hb dX12_isDevice_17 (by decide) ?_
    exact W.zret (v := 0) (ty := .boolean) hx hb hr rfl (fun t ht hW => ⟨⟨0, (), rfl, Or.inl (⟨rfl, rfl⟩), trivial⟩, hS.F ht⟩) hS.2.2 dX12_isDevice_18
  · skip
    refine lv_aload_n hx hb dX12_isDevice_4 rfl (lv_at hl 0 rfl) ?_
    refine lv_iload_n hx hb dX12_isDevice_5 rfl (lv_at hl 1 rfl) ?_
    refine lv_iconst (v := 1) hx hb dX12_isDevice_6 (by decide) ?_
    refine tk_pi (va_runV (As := [.int p0, .int 1]) (rest := []) ⟨hx, hb, hml, hown, hts⟩ (c_X12_isOf l dC dI cy b p0 1) (cwV 2 hts g_X12_isDevice_X12_isOf_143 rfl rfl rfl (by decide +kernel) ⟨Nat.le_of_ble_eq_true rfl, Nat.le_of_ble_eq_true rfl⟩) (pv_pp hC hP (ci := 12) (q0 := 0) rfl rfl) rfl rfl hl.1 rfl (lv_room (Nat.le_of_ble_eq_true rfl)) dX12_isDevice_7 ⟨Nat.le_of_ble_eq_true rfl, Nat.le_of_ble_eq_true rfl⟩) hP hS (fun r_ H locs hw hP hS => ?_)
    rcases hw with ⟨c2_, rfl⟩ | ⟨c3_, c4_, rfl⟩ | ⟨c5_, c6_, rfl⟩ | ⟨c7_, -, rfl⟩
    · skip
      refine lv_if_eq (tgt := 17) hx hb dX12_isDevice_10 (by decide) (fun _ => ?_) (fun c9_ => absurd (by decide) c9_)
      refine lv_iconst (v := 0) hx hb dX12_isDevice_17 (by decide) ?_
      exact W.zret (v := 0) (ty := .boolean) hx hb hr rfl (fun t ht hW => ⟨⟨0, (), rfl, Or.inr (Or.inl (⟨c1_, c2_, rfl⟩)), trivial⟩, hS.F ht⟩) hS.2.2 dX12_isDevice_18
    · skip
      refine lv_if_eq (tgt := 17) hx hb dX12_isDevice_10 (by decide) (fun _ => ?_) (fun c9_ => absurd (by decide) c9_)
      refine lv_iconst (v := 0) hx hb dX12_isDevice_17 (by decide) ?_
      exact W.zret (v := 0) (ty := .boolean) hx hb hr rfl (fun t ht hW => ⟨⟨0, (), rfl, Or.inr (Or.inr (⟨c1_, c3_, c4_, rfl⟩)), trivial⟩, hS.F ht⟩) hS.2.2 dX12_isDevice_18
    · skip
      exact absurd c6_ (by decide)
    · skip
      exfalso
      have z0_ := tz_neq_r c1_ (show (0 : Int32).toInt = 0 by decide)
      have z1_ := tz_eq_r c7_ (show (0 : Int32).toInt = 0 by decide)
      omega

theorem dX12_restNumber_0 : decode cX12_restNumber 0 = .ok (.aload_n 0, 1) := by decide +kernel
theorem dX12_restNumber_1 : decode cX12_restNumber 1 = .ok (.iconst 0, 1) := by decide +kernel
theorem dX12_restNumber_2 : decode cX12_restNumber 2 = .ok (.bipush 105, 2) := by decide +kernel
theorem dX12_restNumber_4 : decode cX12_restNumber 4 = .ok (.iload_n 1, 1) := by decide +kernel
theorem dX12_restNumber_5 : decode cX12_restNumber 5 = .ok (.iadd, 1) := by decide +kernel
theorem dX12_restNumber_6 : decode cX12_restNumber 6 = .ok (.iconst 1, 1) := by decide +kernel
theorem dX12_restNumber_7 : decode cX12_restNumber 7 = .ok (.isub, 1) := by decide +kernel
theorem dX12_restNumber_8 : decode cX12_restNumber 8 = .ok (.iconst 4, 1) := by decide +kernel
theorem dX12_restNumber_9 : decode cX12_restNumber 9 = .ok (.invokevirtual 409, 3) := by decide +kernel
theorem dX12_restNumber_12 : decode cX12_restNumber 12 = .ok (.ireturn, 1) := by decide +kernel
def v_X12_restNumber : List Cond := .code yX12_restNumber cX12_restNumber 2 (some .int) :: ([.methodLink RX12 409 yX12_ownOf, .instanceMethod yX12_ownOf, .selects RX12 yX12_ownOf yX12_ownOf, .initialized RX12, .code yX12_ownOf cX12_ownOf 5 (some .int), .methodLink RX12 139 yX12_own, .instanceMethod yX12_own, .selects RX12 yX12_own yX12_own, .code yX12_own cX12_own 5 (some .int), .fieldLink RX12 13 "RestBoardModel" "row" "[I"] ++ wsX120)
set_option maxRecDepth 100000 in
theorem gg_X12_restNumber_X12_ownOf_409 : GoodIn v_X12_restNumber v_X12_ownOf := goodIn_r _ [5, 6, 7, 8, 4, 9, 10, 11, 12, 13, 14, 15, 16, 17, 18, 19, 20, 21, 22, 23, 24, 25, 26, 27, 28, 29, 30, 31, 32, 33, 34, 35, 36, 37, 38, 39, 40, 41, 42, 43, 44, 45, 46, 47, 48, 49, 50, 51, 52, 53, 54, 55, 56, 57, 58, 59, 60, 61, 62, 63, 64, 65, 66, 67, 68, 69] (by decide +kernel) (by decide +kernel)
set_option maxRecDepth 100000 in
theorem g_X12_restNumber_X12_ownOf_409 : GoodIn v_X12_restNumber (wsV RX12 409 RX12 yX12_ownOf v_X12_ownOf) := goodIn_app (goodIn_r _ [1, 2, 3, 4] (by decide +kernel) (by decide +kernel)) gg_X12_restNumber_X12_ownOf_409
set_option maxHeartbeats 4000000 in
set_option maxRecDepth 100000 in
theorem c_X12_restNumber (l : Launch) (dC : Nat → ClassId) (dI : Nat → Nat → Nat) (cy : Nat → ClassId) (b : Nat → Nat) (p0 : Int32) : Met l yX12_restNumber v_X12_restNumber ({ frames := 2, cells := 0, slots := 0, locals := 48 }) (va_Pc [.ref (b 0), .int p0] (pp dC dI cy (mw b cy))) (va_Qi (fun (r : Int32) (_ : Unit) => r = (-1)) (fun _ _ => True) (fun _ => False)) 0 0 (fun _ => False) := by
  refine Met.ofW (cc := cX12_restNumber) (maxL := 2) (ret := (some .int)) (by decide) rfl ?_
  intro p e s m args below meth c s₁ B hml hv
  obtain ⟨rfl, hP, hC⟩ := hv
  have hK := hC.1
  have hx := B.exec
  have hb := B.bytes
  have hr := B.returns
  have hts := atoms_spec (ws := v_X12_restNumber) B.pre
  have hown : s.vm.findClass RX12 = some m.cls := findClass_of_methodNamed B.named
  have hlocks := B.notSynchronized
  have hS : va_S (fun _ => False) s.heap s.heap [] := va_S.rf
  have hl := lv_entry ([.ref (b 0), .int p0]) (n := 2) (Nat.le_of_ble_eq_true rfl)
  rw [lg_entry_eq]
  generalize (lg_sl ([.ref (b 0), .int p0]) ++ List.replicate (2 - (lg_sl ([.ref (b 0), .int p0])).length) Slot.unset).toArray = ls at hl ⊢
  have hl : lv_has ls 2 [(0, .ref (b 0)), (1, .int p0)] := hl
  refine lv_aload_n hx hb dX12_restNumber_0 rfl (lv_at hl 0 rfl) ?_
  refine lv_iconst (v := 0) hx hb dX12_restNumber_1 (by decide) ?_
  refine lv_bipush (v := 105) hx hb dX12_restNumber_2 (by decide) ?_
  refine lv_iload_n hx hb dX12_restNumber_4 rfl (lv_at hl 1 rfl) ?_
  refine lv_iadd hx hb dX12_restNumber_5 ?_
  refine lv_iconst (v := 1) hx hb dX12_restNumber_6 (by decide) ?_
  refine lv_isub hx hb dX12_restNumber_7 ?_
  refine lv_iconst (v := 4) hx hb dX12_restNumber_8 (by decide) ?_
  refine tk_pi (va_runV (As := [.int 0, .int (((105 : Int32) + p0) - 1), .int 4]) (rest := []) ⟨hx, hb, hml, hown, hts⟩ (c_X12_ownOf l dC dI cy b 0 (((105 : Int32) + p0) - 1) 4) (cwV 3 hts g_X12_restNumber_X12_ownOf_409 rfl rfl rfl (by decide +kernel) ⟨Nat.le_of_ble_eq_true rfl, Nat.le_of_ble_eq_true rfl⟩) (pv_pp hC hP (ci := 12) (q0 := 0) rfl rfl) rfl rfl hl.1 rfl (lv_room (Nat.le_of_ble_eq_true rfl)) dX12_restNumber_9 ⟨Nat.le_of_ble_eq_true rfl, Nat.le_of_ble_eq_true rfl⟩) hP hS (fun r_ H locs hw hP hS => ?_)
  subst hw
  exact W.iret (v := (-1)) hx hb hr (fun t ht hW => ⟨⟨(-1), (), rfl, rfl, trivial⟩, hS.F ht⟩) hS.2.2 dX12_restNumber_12

theorem dX12_whyNot_0 : decode cX12_whyNot 0 = .ok (.aload_n 0, 1) := by decide +kernel
theorem dX12_whyNot_1 : decode cX12_whyNot 1 = .ok (.iload_n 1, 1) := by decide +kernel
theorem dX12_whyNot_2 : decode cX12_whyNot 2 = .ok (.invokevirtual 467, 3) := by decide +kernel
theorem dX12_whyNot_5 : decode cX12_whyNot 5 = .ok (.iconst (-1), 1) := by decide +kernel
theorem dX12_whyNot_6 : decode cX12_whyNot 6 = .ok (.if_icmp .ne 5, 3) := by decide +kernel
theorem dX12_whyNot_9 : decode cX12_whyNot 9 = .ok (.iconst 1, 1) := by decide +kernel
theorem dX12_whyNot_10 : decode cX12_whyNot 10 = .ok (.ireturn, 1) := by decide +kernel
def v_X12_whyNot : List Cond := .code yX12_whyNot cX12_whyNot 6 (some .int) :: ([.methodLink RX12 467 yX12_restNumber, .instanceMethod yX12_restNumber, .selects RX12 yX12_restNumber yX12_restNumber, .initialized RX12, .code yX12_restNumber cX12_restNumber 2 (some .int), .methodLink RX12 409 yX12_ownOf, .instanceMethod yX12_ownOf, .selects RX12 yX12_ownOf yX12_ownOf, .code yX12_ownOf cX12_ownOf 5 (some .int), .methodLink RX12 139 yX12_own, .instanceMethod yX12_own, .selects RX12 yX12_own yX12_own, .code yX12_own cX12_own 5 (some .int), .fieldLink RX12 13 "RestBoardModel" "row" "[I"] ++ wsX120)
set_option maxRecDepth 100000 in
theorem gg_X12_whyNot_X12_restNumber_467 : GoodIn v_X12_whyNot v_X12_restNumber := goodIn_r _ [5, 6, 7, 8, 4, 9, 10, 11, 12, 13, 14, 15, 16, 17, 18, 19, 20, 21, 22, 23, 24, 25, 26, 27, 28, 29, 30, 31, 32, 33, 34, 35, 36, 37, 38, 39, 40, 41, 42, 43, 44, 45, 46, 47, 48, 49, 50, 51, 52, 53, 54, 55, 56, 57, 58, 59, 60, 61, 62, 63, 64, 65, 66, 67, 68, 69, 70, 71, 72, 73] (by decide +kernel) (by decide +kernel)
set_option maxRecDepth 100000 in
theorem g_X12_whyNot_X12_restNumber_467 : GoodIn v_X12_whyNot (wsV RX12 467 RX12 yX12_restNumber v_X12_restNumber) := goodIn_app (goodIn_r _ [1, 2, 3, 4] (by decide +kernel) (by decide +kernel)) gg_X12_whyNot_X12_restNumber_467
set_option maxHeartbeats 4000000 in
set_option maxRecDepth 100000 in
theorem c_X12_whyNot (l : Launch) (dC : Nat → ClassId) (dI : Nat → Nat → Nat) (cy : Nat → ClassId) (b : Nat → Nat) (p0 : Int32) : Met l yX12_whyNot v_X12_whyNot ({ frames := 3, cells := 0, slots := 0, locals := 69 }) (va_Pc [.ref (b 0), .int p0] (pp dC dI cy (mw b cy))) (va_Qi (fun (r : Int32) (_ : Unit) => r = 1) (fun _ _ => True) (fun _ => False)) 0 0 (fun _ => False) := by
  refine Met.ofW (cc := cX12_whyNot) (maxL := 6) (ret := (some .int)) (by decide) rfl ?_
  intro p e s m args below meth c s₁ B hml hv
  obtain ⟨rfl, hP, hC⟩ := hv
  have hK := hC.1
  have hx := B.exec
  have hb := B.bytes
  have hr := B.returns
  have hts := atoms_spec (ws := v_X12_whyNot) B.pre
  have hown : s.vm.findClass RX12 = some m.cls := findClass_of_methodNamed B.named
  have hlocks := B.notSynchronized
  have hS : va_S (fun _ => False) s.heap s.heap [] := va_S.rf
  have hl := lv_entry ([.ref (b 0), .int p0]) (n := 6) (Nat.le_of_ble_eq_true rfl)
  rw [lg_entry_eq]
  generalize (lg_sl ([.ref (b 0), .int p0]) ++ List.replicate (6 - (lg_sl ([.ref (b 0), .int p0])).length) Slot.unset).toArray = ls at hl ⊢
  have hl : lv_has ls 6 [(0, .ref (b 0)), (1, .int p0)] := hl
  refine lv_aload_n hx hb dX12_whyNot_0 rfl (lv_at hl 0 rfl) ?_
  refine lv_iload_n hx hb dX12_whyNot_1 rfl (lv_at hl 1 rfl) ?_
  refine tk_pi (va_runV (As := [.int p0]) (rest := []) ⟨hx, hb, hml, hown, hts⟩ (c_X12_restNumber l dC dI cy b p0) (cwV 1 hts g_X12_whyNot_X12_restNumber_467 rfl rfl rfl (by decide +kernel) ⟨Nat.le_of_ble_eq_true rfl, Nat.le_of_ble_eq_true rfl⟩) (pv_pp hC hP (ci := 12) (q0 := 0) rfl rfl) rfl rfl hl.1 rfl (lv_room (Nat.le_of_ble_eq_true rfl)) dX12_whyNot_2 ⟨Nat.le_of_ble_eq_true rfl, Nat.le_of_ble_eq_true rfl⟩) hP hS (fun r_ H locs hw hP hS => ?_)
  subst hw
  refine lv_iconst (v := (-1)) hx hb dX12_whyNot_5 (by decide) ?_
  refine lv_icmp_ne (tgt := 11) hx hb dX12_whyNot_6 (by decide) (fun c9_ => absurd (by decide) c9_) (fun _ => ?_)
  refine lv_iconst (v := 1) hx hb dX12_whyNot_9 (by decide) ?_
  exact W.iret (v := 1) hx hb hr (fun t ht hW => ⟨⟨1, (), rfl, rfl, trivial⟩, hS.F ht⟩) hS.2.2 dX12_whyNot_10

theorem dX12_whyRest_0 : decode cX12_whyRest 0 = .ok (.iload_n 1, 1) := by decide +kernel
theorem dX12_whyRest_1 : decode cX12_whyRest 1 = .ok (.i2l, 1) := by decide +kernel
theorem dX12_whyRest_2 : decode cX12_whyRest 2 = .ok (.lconst 1, 1) := by decide +kernel
theorem dX12_whyRest_3 : decode cX12_whyRest 3 = .ok (.ldc2_w 462, 3) := by decide +kernel
theorem dX12_whyRest_6 : decode cX12_whyRest 6 = .ok (.invokestatic 128, 3) := by decide +kernel
theorem dX12_whyRest_9 : decode cX12_whyRest 9 = .ok (.ifCond .ne 7, 3) := by decide +kernel
theorem dX12_whyRest_12 : decode cX12_whyRest 12 = .ok (.iconst (-1), 1) := by decide +kernel
theorem dX12_whyRest_13 : decode cX12_whyRest 13 = .ok (.goto 33, 3) := by decide +kernel
theorem dX12_whyRest_16 : decode cX12_whyRest 16 = .ok (.aload_n 0, 1) := by decide +kernel
theorem dX12_whyRest_17 : decode cX12_whyRest 17 = .ok (.getfield 13, 3) := by decide +kernel
theorem dX12_whyRest_20 : decode cX12_whyRest 20 = .ok (.sipush 3306, 3) := by decide +kernel
theorem dX12_whyRest_23 : decode cX12_whyRest 23 = .ok (.iaload, 1) := by decide +kernel
theorem dX12_whyRest_24 : decode cX12_whyRest 24 = .ok (.ifCond .le 8, 3) := by decide +kernel
theorem dX12_whyRest_32 : decode cX12_whyRest 32 = .ok (.aload_n 0, 1) := by decide +kernel
theorem dX12_whyRest_33 : decode cX12_whyRest 33 = .ok (.iload_n 1, 1) := by decide +kernel
theorem dX12_whyRest_34 : decode cX12_whyRest 34 = .ok (.invokevirtual 497, 3) := by decide +kernel
theorem dX12_whyRest_37 : decode cX12_whyRest 37 = .ok (.ifCond .eq 8, 3) := by decide +kernel
theorem dX12_whyRest_40 : decode cX12_whyRest 40 = .ok (.bipush (-4), 2) := by decide +kernel
theorem dX12_whyRest_42 : decode cX12_whyRest 42 = .ok (.goto 4, 3) := by decide +kernel
theorem dX12_whyRest_46 : decode cX12_whyRest 46 = .ok (.ireturn, 1) := by decide +kernel
def v_X12_whyRest : List Cond := .code yX12_whyRest cX12_whyRest 2 (some .int) :: ([.constantLong RX12 462 (4), .fieldLink RX12 13 "RestBoardModel" "row" "[I", .methodLink RX12 128 yX12_in, .static yX12_in, .initialized RX12, .code yX12_in cX12_in 6 (some .boolean), .methodLink RX12 497 yX12_whyNot, .instanceMethod yX12_whyNot, .selects RX12 yX12_whyNot yX12_whyNot, .code yX12_whyNot cX12_whyNot 6 (some .int), .methodLink RX12 467 yX12_restNumber, .instanceMethod yX12_restNumber, .selects RX12 yX12_restNumber yX12_restNumber, .code yX12_restNumber cX12_restNumber 2 (some .int), .methodLink RX12 409 yX12_ownOf, .instanceMethod yX12_ownOf, .selects RX12 yX12_ownOf yX12_ownOf, .code yX12_ownOf cX12_ownOf 5 (some .int), .methodLink RX12 139 yX12_own, .instanceMethod yX12_own, .selects RX12 yX12_own yX12_own, .code yX12_own cX12_own 5 (some .int)] ++ wsX120)
theorem m_X12_whyRest_0 : (.constantLong RX12 462 (4) : Cond) ∈ v_X12_whyRest := List.mem_of_getElem? (i := 1) (by decide +kernel)
theorem m_X12_whyRest_1 : (.fieldLink RX12 13 "RestBoardModel" "row" "[I" : Cond) ∈ v_X12_whyRest := List.mem_of_getElem? (i := 2) (by decide +kernel)
theorem i_X12_whyRest_X12 : ∀ w ∈ u_ws RX12 TX12 59, w ∈ v_X12_whyRest := fun w h => List.mem_cons_of_mem _ (List.mem_append_right _ h)
set_option maxRecDepth 100000 in
theorem gg_X12_whyRest_X12_in_128 : GoodIn v_X12_whyRest v_X12_in := goodIn_r _ [6] (by decide +kernel) (by decide +kernel)
set_option maxRecDepth 100000 in
theorem g_X12_whyRest_X12_in_128 : GoodIn v_X12_whyRest (va_wsS RX12 128 yX12_in v_X12_in) := goodIn_app (goodIn_r _ [3, 4, 5] (by decide +kernel) (by decide +kernel)) gg_X12_whyRest_X12_in_128
set_option maxRecDepth 100000 in
theorem gg_X12_whyRest_X12_whyNot_497 : GoodIn v_X12_whyRest v_X12_whyNot := goodIn_r _ [10, 11, 12, 13, 5, 14, 15, 16, 17, 18, 19, 20, 21, 22, 2, 23, 24, 25, 26, 27, 28, 29, 30, 31, 32, 33, 34, 35, 36, 37, 38, 39, 40, 41, 42, 43, 44, 45, 46, 47, 48, 49, 50, 51, 52, 53, 54, 55, 56, 57, 58, 59, 60, 61, 62, 63, 64, 65, 66, 67, 68, 69, 70, 71, 72, 73, 74, 75, 76, 77, 78, 79, 80, 81] (by decide +kernel) (by decide +kernel)
set_option maxRecDepth 100000 in
theorem g_X12_whyRest_X12_whyNot_497 : GoodIn v_X12_whyRest (wsV RX12 497 RX12 yX12_whyNot v_X12_whyNot) := goodIn_app (goodIn_r _ [7, 8, 9, 5] (by decide +kernel) (by decide +kernel)) gg_X12_whyRest_X12_whyNot_497
set_option maxHeartbeats 4000000 in
set_option maxRecDepth 100000 in
theorem c_X12_whyRest (l : Launch) (dC : Nat → ClassId) (dI : Nat → Nat → Nat) (cy : Nat → ClassId) (b : Nat → Nat) (p0 : Int32) : Met l yX12_whyRest v_X12_whyRest ({ frames := 4, cells := 0, slots := 0, locals := 94 }) (va_Pc [.ref (b 0), .int p0] (pp dC dI cy (mw b cy))) (va_Qi (fun (r : Int32) (_ : Unit) => ((p0 < 1) ∧ r = (-1)) ∨ ((¬ p0 < 1) ∧ ((4 : Int32) < p0) ∧ r = (-1)) ∨ ((¬ p0 < 1) ∧ (¬ (4 : Int32) < p0) ∧ r = (-4))) (fun _ _ => True) (fun _ => False)) 0 0 (fun _ => False) := by
  refine Met.ofW (cc := cX12_whyRest) (maxL := 2) (ret := (some .int)) (by decide) rfl ?_
  intro p e s m args below meth c s₁ B hml hv
  obtain ⟨rfl, hP, hC⟩ := hv
  have hK := hC.1
  have hx := B.exec
  have hb := B.bytes
  have hr := B.returns
  have hts := atoms_spec (ws := v_X12_whyRest) B.pre
  have hown : s.vm.findClass RX12 = some m.cls := findClass_of_methodNamed B.named
  have hlocks := B.notSynchronized
  have hS : va_S (fun _ => False) s.heap s.heap [] := va_S.rf
  have hl := lv_entry ([.ref (b 0), .int p0]) (n := 2) (Nat.le_of_ble_eq_true rfl)
  rw [lg_entry_eq]
  generalize (lg_sl ([.ref (b 0), .int p0]) ++ List.replicate (2 - (lg_sl ([.ref (b 0), .int p0])).length) Slot.unset).toArray = ls at hl ⊢
  have hl : lv_has ls 2 [(0, .ref (b 0)), (1, .int p0)] := hl
  refine lv_iload_n hx hb dX12_whyRest_0 rfl (lv_at hl 1 rfl) ?_
  refine lv_i2l (v := Int32.toInt64 p0) hx hb dX12_whyRest_1 rfl ?_
  refine lv_lconst (v := 1) hx hb dX12_whyRest_2 (by decide) ?_
  refine tk_l (Int32.toInt64 1) (by decide) ?_
  refine lv_ldc2 (v := 4) hx hb hown (hts _ m_X12_whyRest_0) dX12_whyRest_3 ?_
  refine tk_l (Int32.toInt64 4) (by decide) ?_
  refine tk_pi (va_runS (As := [.long (Int32.toInt64 p0), .long (Int32.toInt64 1), .long (Int32.toInt64 4)]) (rest := []) ⟨hx, hb, hml, hown, hts⟩ (c_X12_in l dC dI cy  p0 1 4) (va_cwS 3 hts g_X12_whyRest_X12_in_128 rfl rfl rfl (by decide +kernel) ⟨Nat.le_of_ble_eq_true rfl, Nat.le_of_ble_eq_true rfl⟩) (pS_pp hC va_P0) rfl rfl hl.1 rfl (lv_room (Nat.le_of_ble_eq_true rfl)) dX12_whyRest_6 ⟨Nat.le_of_ble_eq_true rfl, Nat.le_of_ble_eq_true rfl⟩) hP hS (fun r_ H locs hw hP hS => ?_)
  rcases hw with ⟨c1_, rfl⟩ | ⟨c2_, c3_, rfl⟩ | ⟨c4_, c5_, rfl⟩
  · skip
    refine lv_if_ne (tgt := 16) hx hb dX12_whyRest_9 (by decide) (fun c9_ => absurd (by decide) c9_) (fun _ => ?_)
    refine lv_iconst (v := (-1)) hx hb dX12_whyRest_12 (by decide) ?_
    refine lv_goto (tgt := 46) hx hb dX12_whyRest_13 (by decide) ?_
    exact W.iret (v := (-1)) hx hb hr (fun t ht hW => ⟨⟨(-1), (), rfl, Or.inl (⟨c1_, rfl⟩), trivial⟩, hS.F ht⟩) hS.2.2 dX12_whyRest_46
  · skip
    refine lv_if_ne (tgt := 16) hx hb dX12_whyRest_9 (by decide) (fun c9_ => absurd (by decide) c9_) (fun _ => ?_)
    refine lv_iconst (v := (-1)) hx hb dX12_whyRest_12 (by decide) ?_
    refine lv_goto (tgt := 46) hx hb dX12_whyRest_13 (by decide) ?_
    exact W.iret (v := (-1)) hx hb hr (fun t ht hW => ⟨⟨(-1), (), rfl, Or.inr (Or.inl (⟨c2_, c3_, rfl⟩)), trivial⟩, hS.F ht⟩) hS.2.2 dX12_whyRest_46
  · skip
    refine lv_if_ne (tgt := 16) hx hb dX12_whyRest_9 (by decide) (fun _ => ?_) (fun c9_ => absurd c9_ (by decide))
    refine lv_aload_n hx hb dX12_whyRest_16 rfl (lv_at hl 0 rfl) ?_
    refine va_get (D := (dC, dI)) (ci := 12) (v := .ref (b 2)) (C := RX12) (T := TX12) (N := 59) hx hb hts i_X12_whyRest_X12 hown hK hP 0 rfl rfl 3 (by decide) (hts _ m_X12_whyRest_1) (fun _ h9 => h9) rfl dX12_whyRest_17 ?_
    refine lv_sipush (v := 3306) hx hb dX12_whyRest_20 (by decide) ?_
    refine va_iald hx hb hK hP 2 0 rfl rfl (show ¬ ((3306 : Int32) < 0 ∨ 3408 ≤ Int32.toNatClampNeg 3306) by decide) dX12_whyRest_23 ?_
    refine tk_i 0 (by rfl) ?_
    refine lv_if_le (tgt := 32) hx hb dX12_whyRest_24 (by decide) (fun _ => ?_) (fun c9_ => absurd (by decide) c9_)
    refine lv_aload_n hx hb dX12_whyRest_32 rfl (lv_at hl 0 rfl) ?_
    refine lv_iload_n hx hb dX12_whyRest_33 rfl (lv_at hl 1 rfl) ?_
    refine tk_pi (va_runV (As := [.int p0]) (rest := []) ⟨hx, hb, hml, hown, hts⟩ (c_X12_whyNot l dC dI cy b p0) (cwV 1 hts g_X12_whyRest_X12_whyNot_497 rfl rfl rfl (by decide +kernel) ⟨Nat.le_of_ble_eq_true rfl, Nat.le_of_ble_eq_true rfl⟩) (pv_pp hC hP (ci := 12) (q0 := 0) rfl rfl) rfl rfl hl.1 rfl (lv_room (Nat.le_of_ble_eq_true rfl)) dX12_whyRest_34 ⟨Nat.le_of_ble_eq_true rfl, Nat.le_of_ble_eq_true rfl⟩) hP hS (fun r_ H locs hw hP hS => ?_)
    subst hw
    refine lv_if_eq (tgt := 45) hx hb dX12_whyRest_37 (by decide) (fun c9_ => absurd c9_ (by decide)) (fun _ => ?_)
    refine lv_bipush (v := (-4)) hx hb dX12_whyRest_40 (by decide) ?_
    refine lv_goto (tgt := 46) hx hb dX12_whyRest_42 (by decide) ?_
    exact W.iret (v := (-4)) hx hb hr (fun t ht hW => ⟨⟨(-4), (), rfl, Or.inr (Or.inr (⟨c4_, c5_, rfl⟩)), trivial⟩, hS.F ht⟩) hS.2.2 dX12_whyRest_46

theorem dX12_bitsOf_0 : decode cX12_bitsOf 0 = .ok (.lconst 0, 1) := by decide +kernel
theorem dX12_bitsOf_1 : decode cX12_bitsOf 1 = .ok (.lstore_n 2, 1) := by decide +kernel
theorem dX12_bitsOf_2 : decode cX12_bitsOf 2 = .ok (.iconst 1, 1) := by decide +kernel
theorem dX12_bitsOf_3 : decode cX12_bitsOf 3 = .ok (.istore 4, 2) := by decide +kernel
theorem dX12_bitsOf_5 : decode cX12_bitsOf 5 = .ok (.iload 4, 2) := by decide +kernel
theorem dX12_bitsOf_7 : decode cX12_bitsOf 7 = .ok (.aload_n 0, 1) := by decide +kernel
theorem dX12_bitsOf_8 : decode cX12_bitsOf 8 = .ok (.getfield 13, 3) := by decide +kernel
theorem dX12_bitsOf_11 : decode cX12_bitsOf 11 = .ok (.iload_n 1, 1) := by decide +kernel
theorem dX12_bitsOf_12 : decode cX12_bitsOf 12 = .ok (.iaload, 1) := by decide +kernel
theorem dX12_bitsOf_13 : decode cX12_bitsOf 13 = .ok (.if_icmp .gt 23, 3) := by decide +kernel
theorem dX12_bitsOf_36 : decode cX12_bitsOf 36 = .ok (.lload_n 2, 1) := by decide +kernel
theorem dX12_bitsOf_37 : decode cX12_bitsOf 37 = .ok (.lreturn, 1) := by decide +kernel
def v_X12_bitsOf : List Cond := .code yX12_bitsOf cX12_bitsOf 5 (some .long) :: ([.fieldLink RX12 13 "RestBoardModel" "row" "[I"] ++ wsX120)
theorem m_X12_bitsOf_0 : (.fieldLink RX12 13 "RestBoardModel" "row" "[I" : Cond) ∈ v_X12_bitsOf := List.mem_of_getElem? (i := 1) (by decide +kernel)
theorem i_X12_bitsOf_X12 : ∀ w ∈ u_ws RX12 TX12 59, w ∈ v_X12_bitsOf := fun w h => List.mem_cons_of_mem _ (List.mem_append_right _ h)
set_option maxHeartbeats 4000000 in
set_option maxRecDepth 100000 in
theorem c_X12_bitsOf_80 (l : Launch) (dC : Nat → ClassId) (dI : Nat → Nat → Nat) (cy : Nat → ClassId) (b : Nat → Nat) : Met l yX12_bitsOf v_X12_bitsOf ({ frames := 0, cells := 0, slots := 0, locals := 0 }) (va_Pc [.ref (b 0), .int 80] (pp dC dI cy (mw b cy))) (va_Ql (fun (r : Int64) (_ : Unit) => r = (Int32.toInt64 0)) (fun _ _ => True) (fun _ => False)) 0 0 (fun _ => False) := by
  refine Met.ofW (cc := cX12_bitsOf) (maxL := 5) (ret := (some .long)) (by decide) rfl ?_
  intro p e s m args below meth c s₁ B hml hv
  obtain ⟨rfl, hP, hC⟩ := hv
  have hK := hC.1
  have hx := B.exec
  have hb := B.bytes
  have hr := B.returns
  have hts := atoms_spec (ws := v_X12_bitsOf) B.pre
  have hown : s.vm.findClass RX12 = some m.cls := findClass_of_methodNamed B.named
  have hlocks := B.notSynchronized
  have hS : va_S (fun _ => False) s.heap s.heap [] := va_S.rf
  have hl := lv_entry ([.ref (b 0), .int 80]) (n := 5) (Nat.le_of_ble_eq_true rfl)
  rw [lg_entry_eq]
  generalize (lg_sl ([.ref (b 0), .int 80]) ++ List.replicate (5 - (lg_sl ([.ref (b 0), .int 80])).length) Slot.unset).toArray = ls at hl ⊢
  have hl : lv_has ls 5 [(0, .ref (b 0)), (1, .int 80)] := hl
  refine lv_lconst (v := 0) hx hb dX12_bitsOf_0 (by decide) ?_
  refine tk_l (Int32.toInt64 0) (by decide) ?_
  refine lv_lstore_n (lv' := [(2, .long (Int32.toInt64 0)), (0, .ref (b 0)), (1, .int 80)]) hx hb dX12_bitsOf_1 rfl hl (by decide) rfl (fun ls hl => ?_)
  refine lv_iconst (v := 1) hx hb dX12_bitsOf_2 (by decide) ?_
  refine lv_istore (lv' := [(4, .int 1), (2, .long (Int32.toInt64 0)), (0, .ref (b 0)), (1, .int 80)]) hx hb dX12_bitsOf_3 hl (by decide) rfl (fun ls hl => ?_)
  refine lv_iload hx hb dX12_bitsOf_5 (lv_at hl 0 rfl) ?_
  refine lv_aload_n hx hb dX12_bitsOf_7 rfl (lv_at hl 2 rfl) ?_
  refine va_get (D := (dC, dI)) (ci := 12) (v := .ref (b 2)) (C := RX12) (T := TX12) (N := 59) hx hb hts i_X12_bitsOf_X12 hown hK hP 0 rfl rfl 3 (by decide) (hts _ m_X12_bitsOf_0) (fun _ h9 => h9) rfl dX12_bitsOf_8 ?_
  refine lv_iload_n hx hb dX12_bitsOf_11 rfl (lv_at hl 3 rfl) ?_
  refine va_iald hx hb hK hP 2 0 rfl rfl (show ¬ ((80 : Int32) < 0 ∨ 3408 ≤ Int32.toNatClampNeg 80) by decide) dX12_bitsOf_12 ?_
  refine tk_i 0 (by rfl) ?_
  refine lv_icmp_gt (tgt := 36) hx hb dX12_bitsOf_13 (by decide) (fun _ => ?_) (fun c9_ => absurd (by decide) c9_)
  refine lv_lload_n hx hb dX12_bitsOf_36 rfl (lv_at hl 1 rfl) ?_
  exact W.lret (v := (Int32.toInt64 0)) hx hb hr (fun t ht hW => ⟨⟨(Int32.toInt64 0), (), rfl, rfl, trivial⟩, hS.F ht⟩) hS.2.2 dX12_bitsOf_37

set_option maxHeartbeats 4000000 in
set_option maxRecDepth 100000 in
theorem c_X12_bitsOf_87 (l : Launch) (dC : Nat → ClassId) (dI : Nat → Nat → Nat) (cy : Nat → ClassId) (b : Nat → Nat) : Met l yX12_bitsOf v_X12_bitsOf ({ frames := 0, cells := 0, slots := 0, locals := 0 }) (va_Pc [.ref (b 0), .int 87] (pp dC dI cy (mw b cy))) (va_Ql (fun (r : Int64) (_ : Unit) => r = (Int32.toInt64 0)) (fun _ _ => True) (fun _ => False)) 0 0 (fun _ => False) := by
  refine Met.ofW (cc := cX12_bitsOf) (maxL := 5) (ret := (some .long)) (by decide) rfl ?_
  intro p e s m args below meth c s₁ B hml hv
  obtain ⟨rfl, hP, hC⟩ := hv
  have hK := hC.1
  have hx := B.exec
  have hb := B.bytes
  have hr := B.returns
  have hts := atoms_spec (ws := v_X12_bitsOf) B.pre
  have hown : s.vm.findClass RX12 = some m.cls := findClass_of_methodNamed B.named
  have hlocks := B.notSynchronized
  have hS : va_S (fun _ => False) s.heap s.heap [] := va_S.rf
  have hl := lv_entry ([.ref (b 0), .int 87]) (n := 5) (Nat.le_of_ble_eq_true rfl)
  rw [lg_entry_eq]
  generalize (lg_sl ([.ref (b 0), .int 87]) ++ List.replicate (5 - (lg_sl ([.ref (b 0), .int 87])).length) Slot.unset).toArray = ls at hl ⊢
  have hl : lv_has ls 5 [(0, .ref (b 0)), (1, .int 87)] := hl
  refine lv_lconst (v := 0) hx hb dX12_bitsOf_0 (by decide) ?_
  refine tk_l (Int32.toInt64 0) (by decide) ?_
  refine lv_lstore_n (lv' := [(2, .long (Int32.toInt64 0)), (0, .ref (b 0)), (1, .int 87)]) hx hb dX12_bitsOf_1 rfl hl (by decide) rfl (fun ls hl => ?_)
  refine lv_iconst (v := 1) hx hb dX12_bitsOf_2 (by decide) ?_
  refine lv_istore (lv' := [(4, .int 1), (2, .long (Int32.toInt64 0)), (0, .ref (b 0)), (1, .int 87)]) hx hb dX12_bitsOf_3 hl (by decide) rfl (fun ls hl => ?_)
  refine lv_iload hx hb dX12_bitsOf_5 (lv_at hl 0 rfl) ?_
  refine lv_aload_n hx hb dX12_bitsOf_7 rfl (lv_at hl 2 rfl) ?_
  refine va_get (D := (dC, dI)) (ci := 12) (v := .ref (b 2)) (C := RX12) (T := TX12) (N := 59) hx hb hts i_X12_bitsOf_X12 hown hK hP 0 rfl rfl 3 (by decide) (hts _ m_X12_bitsOf_0) (fun _ h9 => h9) rfl dX12_bitsOf_8 ?_
  refine lv_iload_n hx hb dX12_bitsOf_11 rfl (lv_at hl 3 rfl) ?_
  refine va_iald hx hb hK hP 2 0 rfl rfl (show ¬ ((87 : Int32) < 0 ∨ 3408 ≤ Int32.toNatClampNeg 87) by decide) dX12_bitsOf_12 ?_
  refine tk_i 0 (by rfl) ?_
  refine lv_icmp_gt (tgt := 36) hx hb dX12_bitsOf_13 (by decide) (fun _ => ?_) (fun c9_ => absurd (by decide) c9_)
  refine lv_lload_n hx hb dX12_bitsOf_36 rfl (lv_at hl 1 rfl) ?_
  exact W.lret (v := (Int32.toInt64 0)) hx hb hr (fun t ht hW => ⟨⟨(Int32.toInt64 0), (), rfl, rfl, trivial⟩, hS.F ht⟩) hS.2.2 dX12_bitsOf_37

theorem dX12_wantsOf_0 : decode cX12_wantsOf 0 = .ok (.aload_n 0, 1) := by decide +kernel
theorem dX12_wantsOf_1 : decode cX12_wantsOf 1 = .ok (.iload_n 1, 1) := by decide +kernel
theorem dX12_wantsOf_2 : decode cX12_wantsOf 2 = .ok (.invokestatic 125, 3) := by decide +kernel
theorem dX12_wantsOf_5 : decode cX12_wantsOf 5 = .ok (.bipush 80, 2) := by decide +kernel
theorem dX12_wantsOf_7 : decode cX12_wantsOf 7 = .ok (.iadd, 1) := by decide +kernel
theorem dX12_wantsOf_8 : decode cX12_wantsOf 8 = .ok (.invokevirtual 525, 3) := by decide +kernel
theorem dX12_wantsOf_11 : decode cX12_wantsOf 11 = .ok (.aload_n 0, 1) := by decide +kernel
theorem dX12_wantsOf_12 : decode cX12_wantsOf 12 = .ok (.iload_n 1, 1) := by decide +kernel
theorem dX12_wantsOf_13 : decode cX12_wantsOf 13 = .ok (.invokestatic 125, 3) := by decide +kernel
theorem dX12_wantsOf_16 : decode cX12_wantsOf 16 = .ok (.bipush 87, 2) := by decide +kernel
theorem dX12_wantsOf_18 : decode cX12_wantsOf 18 = .ok (.iadd, 1) := by decide +kernel
theorem dX12_wantsOf_19 : decode cX12_wantsOf 19 = .ok (.invokevirtual 525, 3) := by decide +kernel
theorem dX12_wantsOf_22 : decode cX12_wantsOf 22 = .ok (.lor, 1) := by decide +kernel
theorem dX12_wantsOf_23 : decode cX12_wantsOf 23 = .ok (.lreturn, 1) := by decide +kernel
def v_X12_wantsOf : List Cond := .code yX12_wantsOf cX12_wantsOf 2 (some .long) :: ([.methodLink RX12 125 yX12_at, .static yX12_at, .initialized RX12, .code yX12_at cX12_at 1 (some .int), .methodLink RX12 525 yX12_bitsOf, .instanceMethod yX12_bitsOf, .selects RX12 yX12_bitsOf yX12_bitsOf, .code yX12_bitsOf cX12_bitsOf 5 (some .long), .fieldLink RX12 13 "RestBoardModel" "row" "[I"] ++ wsX120)
set_option maxRecDepth 100000 in
theorem gg_X12_wantsOf_X12_at_125 : GoodIn v_X12_wantsOf v_X12_at := goodIn_r _ [4] (by decide +kernel) (by decide +kernel)
set_option maxRecDepth 100000 in
theorem g_X12_wantsOf_X12_at_125 : GoodIn v_X12_wantsOf (va_wsS RX12 125 yX12_at v_X12_at) := goodIn_app (goodIn_r _ [1, 2, 3] (by decide +kernel) (by decide +kernel)) gg_X12_wantsOf_X12_at_125
set_option maxRecDepth 100000 in
theorem gg_X12_wantsOf_X12_bitsOf_525 : GoodIn v_X12_wantsOf v_X12_bitsOf := goodIn_r _ [8, 9, 10, 11, 12, 13, 14, 15, 16, 17, 18, 19, 20, 21, 22, 23, 24, 25, 26, 27, 28, 29, 30, 31, 32, 33, 34, 35, 36, 37, 38, 39, 40, 41, 42, 43, 44, 45, 46, 47, 48, 49, 50, 51, 52, 53, 54, 55, 56, 57, 58, 59, 60, 61, 62, 63, 64, 65, 66, 67, 68] (by decide +kernel) (by decide +kernel)
set_option maxRecDepth 100000 in
theorem g_X12_wantsOf_X12_bitsOf_525 : GoodIn v_X12_wantsOf (wsV RX12 525 RX12 yX12_bitsOf v_X12_bitsOf) := goodIn_app (goodIn_r _ [5, 6, 7, 3] (by decide +kernel) (by decide +kernel)) gg_X12_wantsOf_X12_bitsOf_525
set_option maxHeartbeats 4000000 in
set_option maxRecDepth 100000 in
theorem c_X12_wantsOf_0 (l : Launch) (dC : Nat → ClassId) (dI : Nat → Nat → Nat) (cy : Nat → ClassId) (b : Nat → Nat) : Met l yX12_wantsOf v_X12_wantsOf ({ frames := 1, cells := 0, slots := 0, locals := 24 }) (va_Pc [.ref (b 0), .int 0] (pp dC dI cy (mw b cy))) (va_Ql (fun (r : Int64) (_ : Unit) => r = (Int32.toInt64 0)) (fun _ _ => True) (fun _ => False)) 0 0 (fun _ => False) := by
  refine Met.ofW (cc := cX12_wantsOf) (maxL := 2) (ret := (some .long)) (by decide) rfl ?_
  intro p e s m args below meth c s₁ B hml hv
  obtain ⟨rfl, hP, hC⟩ := hv
  have hK := hC.1
  have hx := B.exec
  have hb := B.bytes
  have hr := B.returns
  have hts := atoms_spec (ws := v_X12_wantsOf) B.pre
  have hown : s.vm.findClass RX12 = some m.cls := findClass_of_methodNamed B.named
  have hlocks := B.notSynchronized
  have hS : va_S (fun _ => False) s.heap s.heap [] := va_S.rf
  have hl := lv_entry ([.ref (b 0), .int 0]) (n := 2) (Nat.le_of_ble_eq_true rfl)
  rw [lg_entry_eq]
  generalize (lg_sl ([.ref (b 0), .int 0]) ++ List.replicate (2 - (lg_sl ([.ref (b 0), .int 0])).length) Slot.unset).toArray = ls at hl ⊢
  have hl : lv_has ls 2 [(0, .ref (b 0)), (1, .int 0)] := hl
  refine lv_aload_n hx hb dX12_wantsOf_0 rfl (lv_at hl 0 rfl) ?_
  refine lv_iload_n hx hb dX12_wantsOf_1 rfl (lv_at hl 1 rfl) ?_
  refine tk_pi (va_runS (As := [.int 0]) (rest := [.ref (b 0)]) ⟨hx, hb, hml, hown, hts⟩ (c_X12_at l dC dI cy  0) (va_cwS 1 hts g_X12_wantsOf_X12_at_125 rfl rfl rfl (by decide +kernel) ⟨Nat.le_of_ble_eq_true rfl, Nat.le_of_ble_eq_true rfl⟩) (pS_pp hC va_P0) rfl rfl hl.1 rfl (lv_room (Nat.le_of_ble_eq_true rfl)) dX12_wantsOf_2 ⟨Nat.le_of_ble_eq_true rfl, Nat.le_of_ble_eq_true rfl⟩) hP hS (fun r_ H locs hw hP hS => ?_)
  subst hw
  refine lv_bipush (v := 80) hx hb dX12_wantsOf_5 (by decide) ?_
  refine lv_iadd hx hb dX12_wantsOf_7 ?_
  refine tk_i 80 (by decide) ?_
  refine tk_pl (va_runV (As := [.int 80]) (rest := []) ⟨hx, hb, hml, hown, hts⟩ (c_X12_bitsOf_80 l dC dI cy b) (cwV 1 hts g_X12_wantsOf_X12_bitsOf_525 rfl rfl rfl (by decide +kernel) ⟨Nat.le_of_ble_eq_true rfl, Nat.le_of_ble_eq_true rfl⟩) (pv_pp hC hP (ci := 12) (q0 := 0) rfl rfl) rfl rfl hl.1 rfl (lv_room (Nat.le_of_ble_eq_true rfl)) dX12_wantsOf_8 ⟨Nat.le_of_ble_eq_true rfl, Nat.le_of_ble_eq_true rfl⟩) hP hS (fun r_ H locs hw hP hS => ?_)
  subst hw
  refine lv_aload_n hx hb dX12_wantsOf_11 rfl (lv_at hl 0 rfl) ?_
  refine lv_iload_n hx hb dX12_wantsOf_12 rfl (lv_at hl 1 rfl) ?_
  refine tk_pi (va_runS (As := [.int 0]) (rest := [.ref (b 0), .long (Int32.toInt64 0)]) ⟨hx, hb, hml, hown, hts⟩ (c_X12_at l dC dI cy  0) (va_cwS 1 hts g_X12_wantsOf_X12_at_125 rfl rfl rfl (by decide +kernel) ⟨Nat.le_of_ble_eq_true rfl, Nat.le_of_ble_eq_true rfl⟩) (pS_pp hC va_P0) rfl rfl hl.1 rfl (lv_room (Nat.le_of_ble_eq_true rfl)) dX12_wantsOf_13 ⟨Nat.le_of_ble_eq_true rfl, Nat.le_of_ble_eq_true rfl⟩) hP hS (fun r_ H locs hw hP hS => ?_)
  subst hw
  refine lv_bipush (v := 87) hx hb dX12_wantsOf_16 (by decide) ?_
  refine lv_iadd hx hb dX12_wantsOf_18 ?_
  refine tk_i 87 (by decide) ?_
  refine tk_pl (va_runV (As := [.int 87]) (rest := [.long (Int32.toInt64 0)]) ⟨hx, hb, hml, hown, hts⟩ (c_X12_bitsOf_87 l dC dI cy b) (cwV 1 hts g_X12_wantsOf_X12_bitsOf_525 rfl rfl rfl (by decide +kernel) ⟨Nat.le_of_ble_eq_true rfl, Nat.le_of_ble_eq_true rfl⟩) (pv_pp hC hP (ci := 12) (q0 := 0) rfl rfl) rfl rfl hl.1 rfl (lv_room (Nat.le_of_ble_eq_true rfl)) dX12_wantsOf_19 ⟨Nat.le_of_ble_eq_true rfl, Nat.le_of_ble_eq_true rfl⟩) hP hS (fun r_ H locs hw hP hS => ?_)
  subst hw
  refine lv_lor hx hb dX12_wantsOf_22 ?_
  refine tk_l (Int32.toInt64 0) (by decide) ?_
  exact W.lret (v := (Int32.toInt64 0)) hx hb hr (fun t ht hW => ⟨⟨(Int32.toInt64 0), (), rfl, rfl, trivial⟩, hS.F ht⟩) hS.2.2 dX12_wantsOf_23

theorem dX12_isArmed_0 : decode cX12_isArmed 0 = .ok (.aload_n 0, 1) := by decide +kernel
theorem dX12_isArmed_1 : decode cX12_isArmed 1 = .ok (.iload_n 1, 1) := by decide +kernel
theorem dX12_isArmed_2 : decode cX12_isArmed 2 = .ok (.invokevirtual 136, 3) := by decide +kernel
theorem dX12_isArmed_5 : decode cX12_isArmed 5 = .ok (.iconst 1, 1) := by decide +kernel
theorem dX12_isArmed_6 : decode cX12_isArmed 6 = .ok (.if_icmp .ne 23, 3) := by decide +kernel
theorem dX12_isArmed_9 : decode cX12_isArmed 9 = .ok (.aload_n 0, 1) := by decide +kernel
theorem dX12_isArmed_10 : decode cX12_isArmed 10 = .ok (.getfield 13, 3) := by decide +kernel
theorem dX12_isArmed_13 : decode cX12_isArmed 13 = .ok (.iload_n 1, 1) := by decide +kernel
theorem dX12_isArmed_14 : decode cX12_isArmed 14 = .ok (.invokestatic 125, 3) := by decide +kernel
theorem dX12_isArmed_17 : decode cX12_isArmed 17 = .ok (.bipush 9, 2) := by decide +kernel
theorem dX12_isArmed_19 : decode cX12_isArmed 19 = .ok (.iadd, 1) := by decide +kernel
theorem dX12_isArmed_20 : decode cX12_isArmed 20 = .ok (.iaload, 1) := by decide +kernel
theorem dX12_isArmed_21 : decode cX12_isArmed 21 = .ok (.iconst 1, 1) := by decide +kernel
theorem dX12_isArmed_22 : decode cX12_isArmed 22 = .ok (.if_icmp .ne 7, 3) := by decide +kernel
theorem dX12_isArmed_29 : decode cX12_isArmed 29 = .ok (.iconst 0, 1) := by decide +kernel
theorem dX12_isArmed_30 : decode cX12_isArmed 30 = .ok (.ireturn, 1) := by decide +kernel
def v_X12_isArmed : List Cond := .code yX12_isArmed cX12_isArmed 2 (some .boolean) :: ([.fieldLink RX12 13 "RestBoardModel" "row" "[I", .methodLink RX12 136 yX12_kind, .instanceMethod yX12_kind, .selects RX12 yX12_kind yX12_kind, .initialized RX12, .code yX12_kind cX12_kind 2 (some .int), .methodLink RX12 125 yX12_at, .static yX12_at, .code yX12_at cX12_at 1 (some .int)] ++ wsX120)
theorem m_X12_isArmed_0 : (.fieldLink RX12 13 "RestBoardModel" "row" "[I" : Cond) ∈ v_X12_isArmed := List.mem_of_getElem? (i := 1) (by decide +kernel)
theorem i_X12_isArmed_X12 : ∀ w ∈ u_ws RX12 TX12 59, w ∈ v_X12_isArmed := fun w h => List.mem_cons_of_mem _ (List.mem_append_right _ h)
set_option maxRecDepth 100000 in
theorem gg_X12_isArmed_X12_kind_136 : GoodIn v_X12_isArmed v_X12_kind := goodIn_r _ [6, 1, 7, 8, 5, 9, 10, 11, 12, 13, 14, 15, 16, 17, 18, 19, 20, 21, 22, 23, 24, 25, 26, 27, 28, 29, 30, 31, 32, 33, 34, 35, 36, 37, 38, 39, 40, 41, 42, 43, 44, 45, 46, 47, 48, 49, 50, 51, 52, 53, 54, 55, 56, 57, 58, 59, 60, 61, 62, 63, 64, 65, 66, 67, 68] (by decide +kernel) (by decide +kernel)
set_option maxRecDepth 100000 in
theorem g_X12_isArmed_X12_kind_136 : GoodIn v_X12_isArmed (wsV RX12 136 RX12 yX12_kind v_X12_kind) := goodIn_app (goodIn_r _ [2, 3, 4, 5] (by decide +kernel) (by decide +kernel)) gg_X12_isArmed_X12_kind_136
set_option maxRecDepth 100000 in
theorem gg_X12_isArmed_X12_at_125 : GoodIn v_X12_isArmed v_X12_at := goodIn_r _ [9] (by decide +kernel) (by decide +kernel)
set_option maxRecDepth 100000 in
theorem g_X12_isArmed_X12_at_125 : GoodIn v_X12_isArmed (va_wsS RX12 125 yX12_at v_X12_at) := goodIn_app (goodIn_r _ [7, 8, 5] (by decide +kernel) (by decide +kernel)) gg_X12_isArmed_X12_at_125
set_option maxHeartbeats 4000000 in
set_option maxRecDepth 100000 in
theorem c_X12_isArmed_0 (l : Launch) (dC : Nat → ClassId) (dI : Nat → Nat → Nat) (cy : Nat → ClassId) (b : Nat → Nat) : Met l yX12_isArmed v_X12_isArmed ({ frames := 2, cells := 0, slots := 0, locals := 41 }) (va_Pc [.ref (b 0), .int 0] (pp dC dI cy (mw b cy))) (va_Qi (fun (r : Int32) (_ : Unit) => r = 0) (fun _ _ => True) (fun _ => False)) 0 0 (fun _ => False) := by
  refine Met.ofW (cc := cX12_isArmed) (maxL := 2) (ret := (some .boolean)) (by decide) rfl ?_
  intro p e s m args below meth c s₁ B hml hv
  obtain ⟨rfl, hP, hC⟩ := hv
  have hK := hC.1
  have hx := B.exec
  have hb := B.bytes
  have hr := B.returns
  have hts := atoms_spec (ws := v_X12_isArmed) B.pre
  have hown : s.vm.findClass RX12 = some m.cls := findClass_of_methodNamed B.named
  have hlocks := B.notSynchronized
  have hS : va_S (fun _ => False) s.heap s.heap [] := va_S.rf
  have hl := lv_entry ([.ref (b 0), .int 0]) (n := 2) (Nat.le_of_ble_eq_true rfl)
  rw [lg_entry_eq]
  generalize (lg_sl ([.ref (b 0), .int 0]) ++ List.replicate (2 - (lg_sl ([.ref (b 0), .int 0])).length) Slot.unset).toArray = ls at hl ⊢
  have hl : lv_has ls 2 [(0, .ref (b 0)), (1, .int 0)] := hl
  refine lv_aload_n hx hb dX12_isArmed_0 rfl (lv_at hl 0 rfl) ?_
  refine lv_iload_n hx hb dX12_isArmed_1 rfl (lv_at hl 1 rfl) ?_
  refine tk_pi (va_runV (As := [.int 0]) (rest := []) ⟨hx, hb, hml, hown, hts⟩ (c_X12_kind_0 l dC dI cy b) (cwV 1 hts g_X12_isArmed_X12_kind_136 rfl rfl rfl (by decide +kernel) ⟨Nat.le_of_ble_eq_true rfl, Nat.le_of_ble_eq_true rfl⟩) (pv_pp hC hP (ci := 12) (q0 := 0) rfl rfl) rfl rfl hl.1 rfl (lv_room (Nat.le_of_ble_eq_true rfl)) dX12_isArmed_2 ⟨Nat.le_of_ble_eq_true rfl, Nat.le_of_ble_eq_true rfl⟩) hP hS (fun r_ H locs hw hP hS => ?_)
  subst hw
  refine lv_iconst (v := 1) hx hb dX12_isArmed_5 (by decide) ?_
  refine lv_icmp_ne (tgt := 29) hx hb dX12_isArmed_6 (by decide) (fun c9_ => absurd (by decide) c9_) (fun _ => ?_)
  refine lv_aload_n hx hb dX12_isArmed_9 rfl (lv_at hl 0 rfl) ?_
  refine va_get (D := (dC, dI)) (ci := 12) (v := .ref (b 2)) (C := RX12) (T := TX12) (N := 59) hx hb hts i_X12_isArmed_X12 hown hK hP 0 rfl rfl 3 (by decide) (hts _ m_X12_isArmed_0) (fun _ h9 => h9) rfl dX12_isArmed_10 ?_
  refine lv_iload_n hx hb dX12_isArmed_13 rfl (lv_at hl 1 rfl) ?_
  refine tk_pi (va_runS (As := [.int 0]) (rest := [.ref (b 2)]) ⟨hx, hb, hml, hown, hts⟩ (c_X12_at l dC dI cy  0) (va_cwS 1 hts g_X12_isArmed_X12_at_125 rfl rfl rfl (by decide +kernel) ⟨Nat.le_of_ble_eq_true rfl, Nat.le_of_ble_eq_true rfl⟩) (pS_pp hC va_P0) rfl rfl hl.1 rfl (lv_room (Nat.le_of_ble_eq_true rfl)) dX12_isArmed_14 ⟨Nat.le_of_ble_eq_true rfl, Nat.le_of_ble_eq_true rfl⟩) hP hS (fun r_ H locs hw hP hS => ?_)
  subst hw
  refine lv_bipush (v := 9) hx hb dX12_isArmed_17 (by decide) ?_
  refine lv_iadd hx hb dX12_isArmed_19 ?_
  refine tk_i 9 (by decide) ?_
  refine va_iald hx hb hK hP 2 0 rfl rfl (show ¬ ((9 : Int32) < 0 ∨ 3408 ≤ Int32.toNatClampNeg 9) by decide) dX12_isArmed_20 ?_
  refine tk_i 0 (by rfl) ?_
  refine lv_iconst (v := 1) hx hb dX12_isArmed_21 (by decide) ?_
  refine lv_icmp_ne (tgt := 29) hx hb dX12_isArmed_22 (by decide) (fun _ => ?_) (fun c9_ => absurd c9_ (by decide))
  refine lv_iconst (v := 0) hx hb dX12_isArmed_29 (by decide) ?_
  exact W.zret (v := 0) (ty := .boolean) hx hb hr rfl (fun t ht hW => ⟨⟨0, (), rfl, rfl, trivial⟩, hS.F ht⟩) hS.2.2 dX12_isArmed_30

theorem dX12_armedOnes_0 : decode cX12_armedOnes 0 = .ok (.iconst 0, 1) := by decide +kernel
theorem dX12_armedOnes_1 : decode cX12_armedOnes 1 = .ok (.istore_n 1, 1) := by decide +kernel
theorem dX12_armedOnes_2 : decode cX12_armedOnes 2 = .ok (.iconst 0, 1) := by decide +kernel
theorem dX12_armedOnes_3 : decode cX12_armedOnes 3 = .ok (.istore_n 2, 1) := by decide +kernel
theorem dX12_armedOnes_4 : decode cX12_armedOnes 4 = .ok (.iload_n 2, 1) := by decide +kernel
theorem dX12_armedOnes_5 : decode cX12_armedOnes 5 = .ok (.aload_n 0, 1) := by decide +kernel
theorem dX12_armedOnes_6 : decode cX12_armedOnes 6 = .ok (.getfield 13, 3) := by decide +kernel
theorem dX12_armedOnes_9 : decode cX12_armedOnes 9 = .ok (.sipush 3264, 3) := by decide +kernel
theorem dX12_armedOnes_12 : decode cX12_armedOnes 12 = .ok (.iaload, 1) := by decide +kernel
theorem dX12_armedOnes_13 : decode cX12_armedOnes 13 = .ok (.if_icmp .ge 25, 3) := by decide +kernel
theorem dX12_armedOnes_16 : decode cX12_armedOnes 16 = .ok (.iload_n 1, 1) := by decide +kernel
theorem dX12_armedOnes_17 : decode cX12_armedOnes 17 = .ok (.aload_n 0, 1) := by decide +kernel
theorem dX12_armedOnes_18 : decode cX12_armedOnes 18 = .ok (.iload_n 2, 1) := by decide +kernel
theorem dX12_armedOnes_19 : decode cX12_armedOnes 19 = .ok (.invokevirtual 470, 3) := by decide +kernel
theorem dX12_armedOnes_22 : decode cX12_armedOnes 22 = .ok (.ifCond .eq 7, 3) := by decide +kernel
theorem dX12_armedOnes_29 : decode cX12_armedOnes 29 = .ok (.iconst 0, 1) := by decide +kernel
theorem dX12_armedOnes_30 : decode cX12_armedOnes 30 = .ok (.iadd, 1) := by decide +kernel
theorem dX12_armedOnes_31 : decode cX12_armedOnes 31 = .ok (.istore_n 1, 1) := by decide +kernel
theorem dX12_armedOnes_32 : decode cX12_armedOnes 32 = .ok (.iinc 2 1, 3) := by decide +kernel
theorem dX12_armedOnes_35 : decode cX12_armedOnes 35 = .ok (.goto (-31), 3) := by decide +kernel
theorem dX12_armedOnes_38 : decode cX12_armedOnes 38 = .ok (.iload_n 1, 1) := by decide +kernel
theorem dX12_armedOnes_39 : decode cX12_armedOnes 39 = .ok (.ireturn, 1) := by decide +kernel
def v_X12_armedOnes : List Cond := .code yX12_armedOnes cX12_armedOnes 3 (some .int) :: ([.fieldLink RX12 13 "RestBoardModel" "row" "[I", .methodLink RX12 470 yX12_isArmed, .instanceMethod yX12_isArmed, .selects RX12 yX12_isArmed yX12_isArmed, .initialized RX12, .code yX12_isArmed cX12_isArmed 2 (some .boolean), .methodLink RX12 136 yX12_kind, .instanceMethod yX12_kind, .selects RX12 yX12_kind yX12_kind, .code yX12_kind cX12_kind 2 (some .int), .methodLink RX12 125 yX12_at, .static yX12_at, .code yX12_at cX12_at 1 (some .int)] ++ wsX120)
theorem m_X12_armedOnes_0 : (.fieldLink RX12 13 "RestBoardModel" "row" "[I" : Cond) ∈ v_X12_armedOnes := List.mem_of_getElem? (i := 1) (by decide +kernel)
theorem i_X12_armedOnes_X12 : ∀ w ∈ u_ws RX12 TX12 59, w ∈ v_X12_armedOnes := fun w h => List.mem_cons_of_mem _ (List.mem_append_right _ h)
set_option maxRecDepth 100000 in
theorem gg_X12_armedOnes_X12_isArmed_470 : GoodIn v_X12_armedOnes v_X12_isArmed := goodIn_r _ [6, 1, 7, 8, 9, 5, 10, 11, 12, 13, 14, 15, 16, 17, 18, 19, 20, 21, 22, 23, 24, 25, 26, 27, 28, 29, 30, 31, 32, 33, 34, 35, 36, 37, 38, 39, 40, 41, 42, 43, 44, 45, 46, 47, 48, 49, 50, 51, 52, 53, 54, 55, 56, 57, 58, 59, 60, 61, 62, 63, 64, 65, 66, 67, 68, 69, 70, 71, 72] (by decide +kernel) (by decide +kernel)
set_option maxRecDepth 100000 in
theorem g_X12_armedOnes_X12_isArmed_470 : GoodIn v_X12_armedOnes (wsV RX12 470 RX12 yX12_isArmed v_X12_isArmed) := goodIn_app (goodIn_r _ [2, 3, 4, 5] (by decide +kernel) (by decide +kernel)) gg_X12_armedOnes_X12_isArmed_470
set_option maxHeartbeats 4000000 in
set_option maxRecDepth 100000 in
theorem c_X12_armedOnes (l : Launch) (dC : Nat → ClassId) (dI : Nat → Nat → Nat) (cy : Nat → ClassId) (b : Nat → Nat) : Met l yX12_armedOnes v_X12_armedOnes ({ frames := 3, cells := 0, slots := 0, locals := 62 }) (va_Pc [.ref (b 0)] (pp dC dI cy (mw b cy))) (va_Qi (fun (r : Int32) (_ : Unit) => r = 0) (fun _ _ => True) (fun _ => False)) 0 0 (fun _ => False) := by
  refine Met.ofW (cc := cX12_armedOnes) (maxL := 3) (ret := (some .int)) (by decide) rfl ?_
  intro p e s m args below meth c s₁ B hml hv
  obtain ⟨rfl, hP, hC⟩ := hv
  have hK := hC.1
  have hx := B.exec
  have hb := B.bytes
  have hr := B.returns
  have hts := atoms_spec (ws := v_X12_armedOnes) B.pre
  have hown : s.vm.findClass RX12 = some m.cls := findClass_of_methodNamed B.named
  have hlocks := B.notSynchronized
  have hS : va_S (fun _ => False) s.heap s.heap [] := va_S.rf
  have hl := lv_entry ([.ref (b 0)]) (n := 3) (Nat.le_of_ble_eq_true rfl)
  rw [lg_entry_eq]
  generalize (lg_sl ([.ref (b 0)]) ++ List.replicate (3 - (lg_sl ([.ref (b 0)])).length) Slot.unset).toArray = ls at hl ⊢
  have hl : lv_has ls 3 [(0, .ref (b 0))] := hl
  refine lv_iconst (v := 0) hx hb dX12_armedOnes_0 (by decide) ?_
  refine lv_istore_n (lv' := [(1, .int 0), (0, .ref (b 0))]) hx hb dX12_armedOnes_1 rfl hl (by decide) rfl (fun ls hl => ?_)
  refine lv_iconst (v := 0) hx hb dX12_armedOnes_2 (by decide) ?_
  refine lv_istore_n (lv' := [(2, .int 0), (1, .int 0), (0, .ref (b 0))]) hx hb dX12_armedOnes_3 rfl hl (by decide) rfl (fun ls hl => ?_)
  refine lv_iload_n hx hb dX12_armedOnes_4 rfl (lv_at hl 0 rfl) ?_
  refine lv_aload_n hx hb dX12_armedOnes_5 rfl (lv_at hl 2 rfl) ?_
  refine va_get (D := (dC, dI)) (ci := 12) (v := .ref (b 2)) (C := RX12) (T := TX12) (N := 59) hx hb hts i_X12_armedOnes_X12 hown hK hP 0 rfl rfl 3 (by decide) (hts _ m_X12_armedOnes_0) (fun _ h9 => h9) rfl dX12_armedOnes_6 ?_
  refine lv_sipush (v := 3264) hx hb dX12_armedOnes_9 (by decide) ?_
  refine va_iald hx hb hK hP 2 0 rfl rfl (show ¬ ((3264 : Int32) < 0 ∨ 3408 ≤ Int32.toNatClampNeg 3264) by decide) dX12_armedOnes_12 ?_
  refine tk_i 1 (by rfl) ?_
  refine lv_icmp_ge (tgt := 38) hx hb dX12_armedOnes_13 (by decide) (fun c9_ => absurd c9_ (by decide)) (fun _ => ?_)
  refine lv_iload_n hx hb dX12_armedOnes_16 rfl (lv_at hl 1 rfl) ?_
  refine lv_aload_n hx hb dX12_armedOnes_17 rfl (lv_at hl 2 rfl) ?_
  refine lv_iload_n hx hb dX12_armedOnes_18 rfl (lv_at hl 0 rfl) ?_
  refine tk_pi (va_runV (As := [.int 0]) (rest := [.int 0]) ⟨hx, hb, hml, hown, hts⟩ (c_X12_isArmed_0 l dC dI cy b) (cwV 1 hts g_X12_armedOnes_X12_isArmed_470 rfl rfl rfl (by decide +kernel) ⟨Nat.le_of_ble_eq_true rfl, Nat.le_of_ble_eq_true rfl⟩) (pv_pp hC hP (ci := 12) (q0 := 0) rfl rfl) rfl rfl hl.1 rfl (lv_room (Nat.le_of_ble_eq_true rfl)) dX12_armedOnes_19 ⟨Nat.le_of_ble_eq_true rfl, Nat.le_of_ble_eq_true rfl⟩) hP hS (fun r_ H locs hw hP hS => ?_)
  subst hw
  refine lv_if_eq (tgt := 29) hx hb dX12_armedOnes_22 (by decide) (fun _ => ?_) (fun c9_ => absurd (by decide) c9_)
  refine lv_iconst (v := 0) hx hb dX12_armedOnes_29 (by decide) ?_
  refine lv_iadd hx hb dX12_armedOnes_30 ?_
  refine tk_i 0 (by decide) ?_
  refine lv_istore_n (lv' := [(1, .int 0), (2, .int 0), (0, .ref (b 0))]) hx hb dX12_armedOnes_31 rfl hl (by decide) rfl (fun ls hl => ?_)
  refine lv_iinc (v := 1) (lv' := [(2, .int 1), (1, .int 0), (0, .ref (b 0))]) hx hb dX12_armedOnes_32 hl (k := 1) rfl (by decide) (by decide) rfl (fun ls hl => ?_)
  refine lv_goto (tgt := 4) hx hb dX12_armedOnes_35 (by decide) ?_
  refine lv_iload_n hx hb dX12_armedOnes_4 rfl (lv_at hl 0 rfl) ?_
  refine lv_aload_n hx hb dX12_armedOnes_5 rfl (lv_at hl 2 rfl) ?_
  refine va_get (D := (dC, dI)) (ci := 12) (v := .ref (b 2)) (C := RX12) (T := TX12) (N := 59) hx hb hts i_X12_armedOnes_X12 hown hK hP 0 rfl rfl 3 (by decide) (hts _ m_X12_armedOnes_0) (fun _ h9 => h9) rfl dX12_armedOnes_6 ?_
  refine lv_sipush (v := 3264) hx hb dX12_armedOnes_9 (by decide) ?_
  refine va_iald hx hb hK hP 2 0 rfl rfl (show ¬ ((3264 : Int32) < 0 ∨ 3408 ≤ Int32.toNatClampNeg 3264) by decide) dX12_armedOnes_12 ?_
  refine tk_i 1 (by rfl) ?_
  refine lv_icmp_ge (tgt := 38) hx hb dX12_armedOnes_13 (by decide) (fun _ => ?_) (fun c9_ => absurd (by decide) c9_)
  refine lv_iload_n hx hb dX12_armedOnes_38 rfl (lv_at hl 1 rfl) ?_
  exact W.iret (v := 0) hx hb hr (fun t ht hW => ⟨⟨0, (), rfl, rfl, trivial⟩, hS.F ht⟩) hS.2.2 dX12_armedOnes_39

theorem dX12_manyOf_0 : decode cX12_manyOf 0 = .ok (.iconst 0, 1) := by decide +kernel
theorem dX12_manyOf_1 : decode cX12_manyOf 1 = .ok (.istore_n 2, 1) := by decide +kernel
theorem dX12_manyOf_2 : decode cX12_manyOf 2 = .ok (.iconst 0, 1) := by decide +kernel
theorem dX12_manyOf_3 : decode cX12_manyOf 3 = .ok (.istore_n 3, 1) := by decide +kernel
theorem dX12_manyOf_4 : decode cX12_manyOf 4 = .ok (.iload_n 3, 1) := by decide +kernel
theorem dX12_manyOf_5 : decode cX12_manyOf 5 = .ok (.aload_n 0, 1) := by decide +kernel
theorem dX12_manyOf_6 : decode cX12_manyOf 6 = .ok (.getfield 13, 3) := by decide +kernel
theorem dX12_manyOf_9 : decode cX12_manyOf 9 = .ok (.sipush 3264, 3) := by decide +kernel
theorem dX12_manyOf_12 : decode cX12_manyOf 12 = .ok (.iaload, 1) := by decide +kernel
theorem dX12_manyOf_13 : decode cX12_manyOf 13 = .ok (.if_icmp .ge 46, 3) := by decide +kernel
theorem dX12_manyOf_16 : decode cX12_manyOf 16 = .ok (.iload_n 2, 1) := by decide +kernel
theorem dX12_manyOf_17 : decode cX12_manyOf 17 = .ok (.aload_n 0, 1) := by decide +kernel
theorem dX12_manyOf_18 : decode cX12_manyOf 18 = .ok (.iload_n 3, 1) := by decide +kernel
theorem dX12_manyOf_19 : decode cX12_manyOf 19 = .ok (.invokevirtual 136, 3) := by decide +kernel
theorem dX12_manyOf_22 : decode cX12_manyOf 22 = .ok (.iload_n 1, 1) := by decide +kernel
theorem dX12_manyOf_23 : decode cX12_manyOf 23 = .ok (.if_icmp .ne 27, 3) := by decide +kernel
theorem dX12_manyOf_26 : decode cX12_manyOf 26 = .ok (.iload_n 1, 1) := by decide +kernel
theorem dX12_manyOf_27 : decode cX12_manyOf 27 = .ok (.iconst 2, 1) := by decide +kernel
theorem dX12_manyOf_28 : decode cX12_manyOf 28 = .ok (.if_icmp .ne 18, 3) := by decide +kernel
theorem dX12_manyOf_46 : decode cX12_manyOf 46 = .ok (.iconst 1, 1) := by decide +kernel
theorem dX12_manyOf_47 : decode cX12_manyOf 47 = .ok (.goto 4, 3) := by decide +kernel
theorem dX12_manyOf_50 : decode cX12_manyOf 50 = .ok (.iconst 0, 1) := by decide +kernel
theorem dX12_manyOf_51 : decode cX12_manyOf 51 = .ok (.iadd, 1) := by decide +kernel
theorem dX12_manyOf_52 : decode cX12_manyOf 52 = .ok (.istore_n 2, 1) := by decide +kernel
theorem dX12_manyOf_53 : decode cX12_manyOf 53 = .ok (.iinc 3 1, 3) := by decide +kernel
theorem dX12_manyOf_56 : decode cX12_manyOf 56 = .ok (.goto (-52), 3) := by decide +kernel
theorem dX12_manyOf_59 : decode cX12_manyOf 59 = .ok (.iload_n 2, 1) := by decide +kernel
theorem dX12_manyOf_60 : decode cX12_manyOf 60 = .ok (.ireturn, 1) := by decide +kernel
def v_X12_manyOf : List Cond := .code yX12_manyOf cX12_manyOf 4 (some .int) :: ([.fieldLink RX12 13 "RestBoardModel" "row" "[I", .methodLink RX12 136 yX12_kind, .instanceMethod yX12_kind, .selects RX12 yX12_kind yX12_kind, .initialized RX12, .code yX12_kind cX12_kind 2 (some .int), .methodLink RX12 125 yX12_at, .static yX12_at, .code yX12_at cX12_at 1 (some .int)] ++ wsX120)
theorem m_X12_manyOf_0 : (.fieldLink RX12 13 "RestBoardModel" "row" "[I" : Cond) ∈ v_X12_manyOf := List.mem_of_getElem? (i := 1) (by decide +kernel)
theorem i_X12_manyOf_X12 : ∀ w ∈ u_ws RX12 TX12 59, w ∈ v_X12_manyOf := fun w h => List.mem_cons_of_mem _ (List.mem_append_right _ h)
set_option maxRecDepth 100000 in
theorem gg_X12_manyOf_X12_kind_136 : GoodIn v_X12_manyOf v_X12_kind := goodIn_r _ [6, 1, 7, 8, 5, 9, 10, 11, 12, 13, 14, 15, 16, 17, 18, 19, 20, 21, 22, 23, 24, 25, 26, 27, 28, 29, 30, 31, 32, 33, 34, 35, 36, 37, 38, 39, 40, 41, 42, 43, 44, 45, 46, 47, 48, 49, 50, 51, 52, 53, 54, 55, 56, 57, 58, 59, 60, 61, 62, 63, 64, 65, 66, 67, 68] (by decide +kernel) (by decide +kernel)
set_option maxRecDepth 100000 in
theorem g_X12_manyOf_X12_kind_136 : GoodIn v_X12_manyOf (wsV RX12 136 RX12 yX12_kind v_X12_kind) := goodIn_app (goodIn_r _ [2, 3, 4, 5] (by decide +kernel) (by decide +kernel)) gg_X12_manyOf_X12_kind_136
set_option maxHeartbeats 4000000 in
set_option maxRecDepth 100000 in
theorem c_X12_manyOf_1 (l : Launch) (dC : Nat → ClassId) (dI : Nat → Nat → Nat) (cy : Nat → ClassId) (b : Nat → Nat) : Met l yX12_manyOf v_X12_manyOf ({ frames := 2, cells := 0, slots := 0, locals := 41 }) (va_Pc [.ref (b 0), .int 1] (pp dC dI cy (mw b cy))) (va_Qi (fun (r : Int32) (_ : Unit) => r = 1) (fun _ _ => True) (fun _ => False)) 0 0 (fun _ => False) := by
  refine Met.ofW (cc := cX12_manyOf) (maxL := 4) (ret := (some .int)) (by decide) rfl ?_
  intro p e s m args below meth c s₁ B hml hv
  obtain ⟨rfl, hP, hC⟩ := hv
  have hK := hC.1
  have hx := B.exec
  have hb := B.bytes
  have hr := B.returns
  have hts := atoms_spec (ws := v_X12_manyOf) B.pre
  have hown : s.vm.findClass RX12 = some m.cls := findClass_of_methodNamed B.named
  have hlocks := B.notSynchronized
  have hS : va_S (fun _ => False) s.heap s.heap [] := va_S.rf
  have hl := lv_entry ([.ref (b 0), .int 1]) (n := 4) (Nat.le_of_ble_eq_true rfl)
  rw [lg_entry_eq]
  generalize (lg_sl ([.ref (b 0), .int 1]) ++ List.replicate (4 - (lg_sl ([.ref (b 0), .int 1])).length) Slot.unset).toArray = ls at hl ⊢
  have hl : lv_has ls 4 [(0, .ref (b 0)), (1, .int 1)] := hl
  refine lv_iconst (v := 0) hx hb dX12_manyOf_0 (by decide) ?_
  refine lv_istore_n (lv' := [(2, .int 0), (0, .ref (b 0)), (1, .int 1)]) hx hb dX12_manyOf_1 rfl hl (by decide) rfl (fun ls hl => ?_)
  refine lv_iconst (v := 0) hx hb dX12_manyOf_2 (by decide) ?_
  refine lv_istore_n (lv' := [(3, .int 0), (2, .int 0), (0, .ref (b 0)), (1, .int 1)]) hx hb dX12_manyOf_3 rfl hl (by decide) rfl (fun ls hl => ?_)
  refine lv_iload_n hx hb dX12_manyOf_4 rfl (lv_at hl 0 rfl) ?_
  refine lv_aload_n hx hb dX12_manyOf_5 rfl (lv_at hl 2 rfl) ?_
  refine va_get (D := (dC, dI)) (ci := 12) (v := .ref (b 2)) (C := RX12) (T := TX12) (N := 59) hx hb hts i_X12_manyOf_X12 hown hK hP 0 rfl rfl 3 (by decide) (hts _ m_X12_manyOf_0) (fun _ h9 => h9) rfl dX12_manyOf_6 ?_
  refine lv_sipush (v := 3264) hx hb dX12_manyOf_9 (by decide) ?_
  refine va_iald hx hb hK hP 2 0 rfl rfl (show ¬ ((3264 : Int32) < 0 ∨ 3408 ≤ Int32.toNatClampNeg 3264) by decide) dX12_manyOf_12 ?_
  refine tk_i 1 (by rfl) ?_
  refine lv_icmp_ge (tgt := 59) hx hb dX12_manyOf_13 (by decide) (fun c9_ => absurd c9_ (by decide)) (fun _ => ?_)
  refine lv_iload_n hx hb dX12_manyOf_16 rfl (lv_at hl 1 rfl) ?_
  refine lv_aload_n hx hb dX12_manyOf_17 rfl (lv_at hl 2 rfl) ?_
  refine lv_iload_n hx hb dX12_manyOf_18 rfl (lv_at hl 0 rfl) ?_
  refine tk_pi (va_runV (As := [.int 0]) (rest := [.int 0]) ⟨hx, hb, hml, hown, hts⟩ (c_X12_kind_0 l dC dI cy b) (cwV 1 hts g_X12_manyOf_X12_kind_136 rfl rfl rfl (by decide +kernel) ⟨Nat.le_of_ble_eq_true rfl, Nat.le_of_ble_eq_true rfl⟩) (pv_pp hC hP (ci := 12) (q0 := 0) rfl rfl) rfl rfl hl.1 rfl (lv_room (Nat.le_of_ble_eq_true rfl)) dX12_manyOf_19 ⟨Nat.le_of_ble_eq_true rfl, Nat.le_of_ble_eq_true rfl⟩) hP hS (fun r_ H locs hw hP hS => ?_)
  subst hw
  refine lv_iload_n hx hb dX12_manyOf_22 rfl (lv_at hl 3 rfl) ?_
  refine lv_icmp_ne (tgt := 50) hx hb dX12_manyOf_23 (by decide) (fun c9_ => absurd (by decide) c9_) (fun _ => ?_)
  refine lv_iload_n hx hb dX12_manyOf_26 rfl (lv_at hl 3 rfl) ?_
  refine lv_iconst (v := 2) hx hb dX12_manyOf_27 (by decide) ?_
  refine lv_icmp_ne (tgt := 46) hx hb dX12_manyOf_28 (by decide) (fun _ => ?_) (fun c9_ => absurd c9_ (by decide))
  refine lv_iconst (v := 1) hx hb dX12_manyOf_46 (by decide) ?_
  refine lv_goto (tgt := 51) hx hb dX12_manyOf_47 (by decide) ?_
  refine lv_iadd hx hb dX12_manyOf_51 ?_
  refine tk_i 1 (by decide) ?_
  refine lv_istore_n (lv' := [(2, .int 1), (3, .int 0), (0, .ref (b 0)), (1, .int 1)]) hx hb dX12_manyOf_52 rfl hl (by decide) rfl (fun ls hl => ?_)
  refine lv_iinc (v := 1) (lv' := [(3, .int 1), (2, .int 1), (0, .ref (b 0)), (1, .int 1)]) hx hb dX12_manyOf_53 hl (k := 1) rfl (by decide) (by decide) rfl (fun ls hl => ?_)
  refine lv_goto (tgt := 4) hx hb dX12_manyOf_56 (by decide) ?_
  refine lv_iload_n hx hb dX12_manyOf_4 rfl (lv_at hl 0 rfl) ?_
  refine lv_aload_n hx hb dX12_manyOf_5 rfl (lv_at hl 2 rfl) ?_
  refine va_get (D := (dC, dI)) (ci := 12) (v := .ref (b 2)) (C := RX12) (T := TX12) (N := 59) hx hb hts i_X12_manyOf_X12 hown hK hP 0 rfl rfl 3 (by decide) (hts _ m_X12_manyOf_0) (fun _ h9 => h9) rfl dX12_manyOf_6 ?_
  refine lv_sipush (v := 3264) hx hb dX12_manyOf_9 (by decide) ?_
  refine va_iald hx hb hK hP 2 0 rfl rfl (show ¬ ((3264 : Int32) < 0 ∨ 3408 ≤ Int32.toNatClampNeg 3264) by decide) dX12_manyOf_12 ?_
  refine tk_i 1 (by rfl) ?_
  refine lv_icmp_ge (tgt := 59) hx hb dX12_manyOf_13 (by decide) (fun _ => ?_) (fun c9_ => absurd (by decide) c9_)
  refine lv_iload_n hx hb dX12_manyOf_59 rfl (lv_at hl 1 rfl) ?_
  exact W.iret (v := 1) hx hb hr (fun t ht hW => ⟨⟨1, (), rfl, rfl, trivial⟩, hS.F ht⟩) hS.2.2 dX12_manyOf_60

set_option maxHeartbeats 4000000 in
set_option maxRecDepth 100000 in
theorem c_X12_manyOf_2 (l : Launch) (dC : Nat → ClassId) (dI : Nat → Nat → Nat) (cy : Nat → ClassId) (b : Nat → Nat) : Met l yX12_manyOf v_X12_manyOf ({ frames := 2, cells := 0, slots := 0, locals := 41 }) (va_Pc [.ref (b 0), .int 2] (pp dC dI cy (mw b cy))) (va_Qi (fun (r : Int32) (_ : Unit) => r = 0) (fun _ _ => True) (fun _ => False)) 0 0 (fun _ => False) := by
  refine Met.ofW (cc := cX12_manyOf) (maxL := 4) (ret := (some .int)) (by decide) rfl ?_
  intro p e s m args below meth c s₁ B hml hv
  obtain ⟨rfl, hP, hC⟩ := hv
  have hK := hC.1
  have hx := B.exec
  have hb := B.bytes
  have hr := B.returns
  have hts := atoms_spec (ws := v_X12_manyOf) B.pre
  have hown : s.vm.findClass RX12 = some m.cls := findClass_of_methodNamed B.named
  have hlocks := B.notSynchronized
  have hS : va_S (fun _ => False) s.heap s.heap [] := va_S.rf
  have hl := lv_entry ([.ref (b 0), .int 2]) (n := 4) (Nat.le_of_ble_eq_true rfl)
  rw [lg_entry_eq]
  generalize (lg_sl ([.ref (b 0), .int 2]) ++ List.replicate (4 - (lg_sl ([.ref (b 0), .int 2])).length) Slot.unset).toArray = ls at hl ⊢
  have hl : lv_has ls 4 [(0, .ref (b 0)), (1, .int 2)] := hl
  refine lv_iconst (v := 0) hx hb dX12_manyOf_0 (by decide) ?_
  refine lv_istore_n (lv' := [(2, .int 0), (0, .ref (b 0)), (1, .int 2)]) hx hb dX12_manyOf_1 rfl hl (by decide) rfl (fun ls hl => ?_)
  refine lv_iconst (v := 0) hx hb dX12_manyOf_2 (by decide) ?_
  refine lv_istore_n (lv' := [(3, .int 0), (2, .int 0), (0, .ref (b 0)), (1, .int 2)]) hx hb dX12_manyOf_3 rfl hl (by decide) rfl (fun ls hl => ?_)
  refine lv_iload_n hx hb dX12_manyOf_4 rfl (lv_at hl 0 rfl) ?_
  refine lv_aload_n hx hb dX12_manyOf_5 rfl (lv_at hl 2 rfl) ?_
  refine va_get (D := (dC, dI)) (ci := 12) (v := .ref (b 2)) (C := RX12) (T := TX12) (N := 59) hx hb hts i_X12_manyOf_X12 hown hK hP 0 rfl rfl 3 (by decide) (hts _ m_X12_manyOf_0) (fun _ h9 => h9) rfl dX12_manyOf_6 ?_
  refine lv_sipush (v := 3264) hx hb dX12_manyOf_9 (by decide) ?_
  refine va_iald hx hb hK hP 2 0 rfl rfl (show ¬ ((3264 : Int32) < 0 ∨ 3408 ≤ Int32.toNatClampNeg 3264) by decide) dX12_manyOf_12 ?_
  refine tk_i 1 (by rfl) ?_
  refine lv_icmp_ge (tgt := 59) hx hb dX12_manyOf_13 (by decide) (fun c9_ => absurd c9_ (by decide)) (fun _ => ?_)
  refine lv_iload_n hx hb dX12_manyOf_16 rfl (lv_at hl 1 rfl) ?_
  refine lv_aload_n hx hb dX12_manyOf_17 rfl (lv_at hl 2 rfl) ?_
  refine lv_iload_n hx hb dX12_manyOf_18 rfl (lv_at hl 0 rfl) ?_
  refine tk_pi (va_runV (As := [.int 0]) (rest := [.int 0]) ⟨hx, hb, hml, hown, hts⟩ (c_X12_kind_0 l dC dI cy b) (cwV 1 hts g_X12_manyOf_X12_kind_136 rfl rfl rfl (by decide +kernel) ⟨Nat.le_of_ble_eq_true rfl, Nat.le_of_ble_eq_true rfl⟩) (pv_pp hC hP (ci := 12) (q0 := 0) rfl rfl) rfl rfl hl.1 rfl (lv_room (Nat.le_of_ble_eq_true rfl)) dX12_manyOf_19 ⟨Nat.le_of_ble_eq_true rfl, Nat.le_of_ble_eq_true rfl⟩) hP hS (fun r_ H locs hw hP hS => ?_)
  subst hw
  refine lv_iload_n hx hb dX12_manyOf_22 rfl (lv_at hl 3 rfl) ?_
  refine lv_icmp_ne (tgt := 50) hx hb dX12_manyOf_23 (by decide) (fun _ => ?_) (fun c9_ => absurd c9_ (by decide))
  refine lv_iconst (v := 0) hx hb dX12_manyOf_50 (by decide) ?_
  refine lv_iadd hx hb dX12_manyOf_51 ?_
  refine tk_i 0 (by decide) ?_
  refine lv_istore_n (lv' := [(2, .int 0), (3, .int 0), (0, .ref (b 0)), (1, .int 2)]) hx hb dX12_manyOf_52 rfl hl (by decide) rfl (fun ls hl => ?_)
  refine lv_iinc (v := 1) (lv' := [(3, .int 1), (2, .int 0), (0, .ref (b 0)), (1, .int 2)]) hx hb dX12_manyOf_53 hl (k := 1) rfl (by decide) (by decide) rfl (fun ls hl => ?_)
  refine lv_goto (tgt := 4) hx hb dX12_manyOf_56 (by decide) ?_
  refine lv_iload_n hx hb dX12_manyOf_4 rfl (lv_at hl 0 rfl) ?_
  refine lv_aload_n hx hb dX12_manyOf_5 rfl (lv_at hl 2 rfl) ?_
  refine va_get (D := (dC, dI)) (ci := 12) (v := .ref (b 2)) (C := RX12) (T := TX12) (N := 59) hx hb hts i_X12_manyOf_X12 hown hK hP 0 rfl rfl 3 (by decide) (hts _ m_X12_manyOf_0) (fun _ h9 => h9) rfl dX12_manyOf_6 ?_
  refine lv_sipush (v := 3264) hx hb dX12_manyOf_9 (by decide) ?_
  refine va_iald hx hb hK hP 2 0 rfl rfl (show ¬ ((3264 : Int32) < 0 ∨ 3408 ≤ Int32.toNatClampNeg 3264) by decide) dX12_manyOf_12 ?_
  refine tk_i 1 (by rfl) ?_
  refine lv_icmp_ge (tgt := 59) hx hb dX12_manyOf_13 (by decide) (fun _ => ?_) (fun c9_ => absurd (by decide) c9_)
  refine lv_iload_n hx hb dX12_manyOf_59 rfl (lv_at hl 1 rfl) ?_
  exact W.iret (v := 0) hx hb hr (fun t ht hW => ⟨⟨0, (), rfl, rfl, trivial⟩, hS.F ht⟩) hS.2.2 dX12_manyOf_60

theorem dX12_deviceOf_0 : decode cX12_deviceOf 0 = .ok (.aload_n 0, 1) := by decide +kernel
theorem dX12_deviceOf_1 : decode cX12_deviceOf 1 = .ok (.getfield 13, 3) := by decide +kernel
theorem dX12_deviceOf_4 : decode cX12_deviceOf 4 = .ok (.iload_n 1, 1) := by decide +kernel
theorem dX12_deviceOf_5 : decode cX12_deviceOf 5 = .ok (.bipush 9, 2) := by decide +kernel
theorem dX12_deviceOf_7 : decode cX12_deviceOf 7 = .ok (.iadd, 1) := by decide +kernel
theorem dX12_deviceOf_8 : decode cX12_deviceOf 8 = .ok (.iaload, 1) := by decide +kernel
theorem dX12_deviceOf_9 : decode cX12_deviceOf 9 = .ok (.iconst 1, 1) := by decide +kernel
theorem dX12_deviceOf_10 : decode cX12_deviceOf 10 = .ok (.if_icmp .ne 7, 3) := by decide +kernel
theorem dX12_deviceOf_17 : decode cX12_deviceOf 17 = .ok (.iconst 0, 1) := by decide +kernel
theorem dX12_deviceOf_18 : decode cX12_deviceOf 18 = .ok (.istore_n 3, 1) := by decide +kernel
theorem dX12_deviceOf_19 : decode cX12_deviceOf 19 = .ok (.iload_n 2, 1) := by decide +kernel
theorem dX12_deviceOf_20 : decode cX12_deviceOf 20 = .ok (.bipush 30, 2) := by decide +kernel
theorem dX12_deviceOf_22 : decode cX12_deviceOf 22 = .ok (.if_icmp .ne 15, 3) := by decide +kernel
theorem dX12_deviceOf_25 : decode cX12_deviceOf 25 = .ok (.aload_n 0, 1) := by decide +kernel
theorem dX12_deviceOf_26 : decode cX12_deviceOf 26 = .ok (.getfield 13, 3) := by decide +kernel
theorem dX12_deviceOf_29 : decode cX12_deviceOf 29 = .ok (.iload_n 1, 1) := by decide +kernel
theorem dX12_deviceOf_30 : decode cX12_deviceOf 30 = .ok (.bipush 8, 2) := by decide +kernel
theorem dX12_deviceOf_32 : decode cX12_deviceOf 32 = .ok (.iadd, 1) := by decide +kernel
theorem dX12_deviceOf_33 : decode cX12_deviceOf 33 = .ok (.iaload, 1) := by decide +kernel
theorem dX12_deviceOf_34 : decode cX12_deviceOf 34 = .ok (.goto 66, 3) := by decide +kernel
theorem dX12_deviceOf_37 : decode cX12_deviceOf 37 = .ok (.iload_n 2, 1) := by decide +kernel
theorem dX12_deviceOf_38 : decode cX12_deviceOf 38 = .ok (.bipush 31, 2) := by decide +kernel
theorem dX12_deviceOf_40 : decode cX12_deviceOf 40 = .ok (.if_icmp .ne 15, 3) := by decide +kernel
theorem dX12_deviceOf_43 : decode cX12_deviceOf 43 = .ok (.aload_n 0, 1) := by decide +kernel
theorem dX12_deviceOf_44 : decode cX12_deviceOf 44 = .ok (.getfield 13, 3) := by decide +kernel
theorem dX12_deviceOf_47 : decode cX12_deviceOf 47 = .ok (.iload_n 1, 1) := by decide +kernel
theorem dX12_deviceOf_48 : decode cX12_deviceOf 48 = .ok (.bipush 9, 2) := by decide +kernel
theorem dX12_deviceOf_50 : decode cX12_deviceOf 50 = .ok (.iadd, 1) := by decide +kernel
theorem dX12_deviceOf_51 : decode cX12_deviceOf 51 = .ok (.iaload, 1) := by decide +kernel
theorem dX12_deviceOf_52 : decode cX12_deviceOf 52 = .ok (.goto 48, 3) := by decide +kernel
theorem dX12_deviceOf_55 : decode cX12_deviceOf 55 = .ok (.iload_n 2, 1) := by decide +kernel
theorem dX12_deviceOf_56 : decode cX12_deviceOf 56 = .ok (.bipush 32, 2) := by decide +kernel
theorem dX12_deviceOf_58 : decode cX12_deviceOf 58 = .ok (.if_icmp .ne 19, 3) := by decide +kernel
theorem dX12_deviceOf_61 : decode cX12_deviceOf 61 = .ok (.iload_n 3, 1) := by decide +kernel
theorem dX12_deviceOf_62 : decode cX12_deviceOf 62 = .ok (.ifCond .eq 15, 3) := by decide +kernel
theorem dX12_deviceOf_77 : decode cX12_deviceOf 77 = .ok (.iload_n 2, 1) := by decide +kernel
theorem dX12_deviceOf_78 : decode cX12_deviceOf 78 = .ok (.bipush 33, 2) := by decide +kernel
theorem dX12_deviceOf_80 : decode cX12_deviceOf 80 = .ok (.if_icmp .ne 19, 3) := by decide +kernel
theorem dX12_deviceOf_83 : decode cX12_deviceOf 83 = .ok (.iload_n 3, 1) := by decide +kernel
theorem dX12_deviceOf_84 : decode cX12_deviceOf 84 = .ok (.ifCond .eq 15, 3) := by decide +kernel
theorem dX12_deviceOf_99 : decode cX12_deviceOf 99 = .ok (.iconst (-1), 1) := by decide +kernel
theorem dX12_deviceOf_100 : decode cX12_deviceOf 100 = .ok (.ireturn, 1) := by decide +kernel
def v_X12_deviceOf : List Cond := .code yX12_deviceOf cX12_deviceOf 4 (some .int) :: ([.fieldLink RX12 13 "RestBoardModel" "row" "[I"] ++ wsX120)
theorem m_X12_deviceOf_0 : (.fieldLink RX12 13 "RestBoardModel" "row" "[I" : Cond) ∈ v_X12_deviceOf := List.mem_of_getElem? (i := 1) (by decide +kernel)
theorem i_X12_deviceOf_X12 : ∀ w ∈ u_ws RX12 TX12 59, w ∈ v_X12_deviceOf := fun w h => List.mem_cons_of_mem _ (List.mem_append_right _ h)
set_option maxHeartbeats 4000000 in
set_option maxRecDepth 100000 in
theorem c_X12_deviceOf_0 (l : Launch) (dC : Nat → ClassId) (dI : Nat → Nat → Nat) (cy : Nat → ClassId) (b : Nat → Nat) (p1 : Int32) : Met l yX12_deviceOf v_X12_deviceOf ({ frames := 0, cells := 0, slots := 0, locals := 0 }) (va_Pc [.ref (b 0), .int 0, .int p1] (pp dC dI cy (mw b cy))) (va_Qi (fun (r : Int32) (_ : Unit) => ((¬ p1 = 30) ∧ (¬ p1 = 31) ∧ (¬ p1 = 32) ∧ (¬ p1 = 33) ∧ r = (-1)) ∨ ((p1 = 33) ∧ r = (-1)) ∨ ((p1 = 32) ∧ r = (-1)) ∨ ((p1 = 31) ∧ r = 0) ∨ ((p1 = 30) ∧ r = 0)) (fun _ _ => True) (fun _ => False)) 0 0 (fun _ => False) := by
  refine Met.ofW (cc := cX12_deviceOf) (maxL := 4) (ret := (some .int)) (by decide) rfl ?_
  intro p e s m args below meth c s₁ B hml hv
  obtain ⟨rfl, hP, hC⟩ := hv
  have hK := hC.1
  have hx := B.exec
  have hb := B.bytes
  have hr := B.returns
  have hts := atoms_spec (ws := v_X12_deviceOf) B.pre
  have hown : s.vm.findClass RX12 = some m.cls := findClass_of_methodNamed B.named
  have hlocks := B.notSynchronized
  have hS : va_S (fun _ => False) s.heap s.heap [] := va_S.rf
  have hl := lv_entry ([.ref (b 0), .int 0, .int p1]) (n := 4) (Nat.le_of_ble_eq_true rfl)
  rw [lg_entry_eq]
  generalize (lg_sl ([.ref (b 0), .int 0, .int p1]) ++ List.replicate (4 - (lg_sl ([.ref (b 0), .int 0, .int p1])).length) Slot.unset).toArray = ls at hl ⊢
  have hl : lv_has ls 4 [(0, .ref (b 0)), (1, .int 0), (2, .int p1)] := hl
  refine lv_aload_n hx hb dX12_deviceOf_0 rfl (lv_at hl 0 rfl) ?_
  refine va_get (D := (dC, dI)) (ci := 12) (v := .ref (b 2)) (C := RX12) (T := TX12) (N := 59) hx hb hts i_X12_deviceOf_X12 hown hK hP 0 rfl rfl 3 (by decide) (hts _ m_X12_deviceOf_0) (fun _ h9 => h9) rfl dX12_deviceOf_1 ?_
  refine lv_iload_n hx hb dX12_deviceOf_4 rfl (lv_at hl 1 rfl) ?_
  refine lv_bipush (v := 9) hx hb dX12_deviceOf_5 (by decide) ?_
  refine lv_iadd hx hb dX12_deviceOf_7 ?_
  refine tk_i 9 (by decide) ?_
  refine va_iald hx hb hK hP 2 0 rfl rfl (show ¬ ((9 : Int32) < 0 ∨ 3408 ≤ Int32.toNatClampNeg 9) by decide) dX12_deviceOf_8 ?_
  refine tk_i 0 (by rfl) ?_
  refine lv_iconst (v := 1) hx hb dX12_deviceOf_9 (by decide) ?_
  refine lv_icmp_ne (tgt := 17) hx hb dX12_deviceOf_10 (by decide) (fun _ => ?_) (fun c9_ => absurd c9_ (by decide))
  refine lv_iconst (v := 0) hx hb dX12_deviceOf_17 (by decide) ?_
  refine lv_istore_n (lv' := [(3, .int 0), (0, .ref (b 0)), (1, .int 0), (2, .int p1)]) hx hb dX12_deviceOf_18 rfl hl (by decide) rfl (fun ls hl => ?_)
  refine lv_iload_n hx hb dX12_deviceOf_19 rfl (lv_at hl 3 rfl) ?_
  refine lv_bipush (v := 30) hx hb dX12_deviceOf_20 (by decide) ?_
  refine lv_icmp_ne (tgt := 37) hx hb dX12_deviceOf_22 (by decide) (fun c1_ => ?_) (fun c1_ => ?_)
  · skip
    refine lv_iload_n hx hb dX12_deviceOf_37 rfl (lv_at hl 3 rfl) ?_
    refine lv_bipush (v := 31) hx hb dX12_deviceOf_38 (by decide) ?_
    refine lv_icmp_ne (tgt := 55) hx hb dX12_deviceOf_40 (by decide) (fun c2_ => ?_) (fun c2_ => ?_)
    · skip
      refine lv_iload_n hx hb dX12_deviceOf_55 rfl (lv_at hl 3 rfl) ?_
      refine lv_bipush (v := 32) hx hb dX12_deviceOf_56 (by decide) ?_
      refine lv_icmp_ne (tgt := 77) hx hb dX12_deviceOf_58 (by decide) (fun c3_ => ?_) (fun c3_ => ?_)
      · skip
        refine lv_iload_n hx hb dX12_deviceOf_77 rfl (lv_at hl 3 rfl) ?_
        refine lv_bipush (v := 33) hx hb dX12_deviceOf_78 (by decide) ?_
        refine lv_icmp_ne (tgt := 99) hx hb dX12_deviceOf_80 (by decide) (fun c4_ => ?_) (fun c4_ => ?_)
        · skip
          refine lv_iconst (v := (-1)) hx hb dX12_deviceOf_99 (by decide) ?_
          exact W.iret (v := (-1)) hx hb hr (fun t ht hW => ⟨⟨(-1), (), rfl, Or.inl (⟨c1_, c2_, c3_, c4_, rfl⟩), trivial⟩, hS.F ht⟩) hS.2.2 dX12_deviceOf_100
        · skip
          subst c4_
          refine lv_iload_n hx hb dX12_deviceOf_83 rfl (lv_at hl 0 rfl) ?_
          refine lv_if_eq (tgt := 99) hx hb dX12_deviceOf_84 (by decide) (fun _ => ?_) (fun c9_ => absurd (by decide) c9_)
          refine lv_iconst (v := (-1)) hx hb dX12_deviceOf_99 (by decide) ?_
          exact W.iret (v := (-1)) hx hb hr (fun t ht hW => ⟨⟨(-1), (), rfl, Or.inr (Or.inl (⟨rfl, rfl⟩)), trivial⟩, hS.F ht⟩) hS.2.2 dX12_deviceOf_100
      · skip
        subst c3_
        refine lv_iload_n hx hb dX12_deviceOf_61 rfl (lv_at hl 0 rfl) ?_
        refine lv_if_eq (tgt := 77) hx hb dX12_deviceOf_62 (by decide) (fun _ => ?_) (fun c9_ => absurd (by decide) c9_)
        refine lv_iload_n hx hb dX12_deviceOf_77 rfl (lv_at hl 3 rfl) ?_
        refine lv_bipush (v := 33) hx hb dX12_deviceOf_78 (by decide) ?_
        refine lv_icmp_ne (tgt := 99) hx hb dX12_deviceOf_80 (by decide) (fun _ => ?_) (fun c9_ => absurd c9_ (by decide))
        refine lv_iconst (v := (-1)) hx hb dX12_deviceOf_99 (by decide) ?_
        exact W.iret (v := (-1)) hx hb hr (fun t ht hW => ⟨⟨(-1), (), rfl, Or.inr (Or.inr (Or.inl (⟨rfl, rfl⟩))), trivial⟩, hS.F ht⟩) hS.2.2 dX12_deviceOf_100
    · skip
      subst c2_
      refine lv_aload_n hx hb dX12_deviceOf_43 rfl (lv_at hl 1 rfl) ?_
      refine va_get (D := (dC, dI)) (ci := 12) (v := .ref (b 2)) (C := RX12) (T := TX12) (N := 59) hx hb hts i_X12_deviceOf_X12 hown hK hP 0 rfl rfl 3 (by decide) (hts _ m_X12_deviceOf_0) (fun _ h9 => h9) rfl dX12_deviceOf_44 ?_
      refine lv_iload_n hx hb dX12_deviceOf_47 rfl (lv_at hl 2 rfl) ?_
      refine lv_bipush (v := 9) hx hb dX12_deviceOf_48 (by decide) ?_
      refine lv_iadd hx hb dX12_deviceOf_50 ?_
      refine tk_i 9 (by decide) ?_
      refine va_iald hx hb hK hP 2 0 rfl rfl (show ¬ ((9 : Int32) < 0 ∨ 3408 ≤ Int32.toNatClampNeg 9) by decide) dX12_deviceOf_51 ?_
      refine tk_i 0 (by rfl) ?_
      refine lv_goto (tgt := 100) hx hb dX12_deviceOf_52 (by decide) ?_
      exact W.iret (v := 0) hx hb hr (fun t ht hW => ⟨⟨0, (), rfl, Or.inr (Or.inr (Or.inr (Or.inl (⟨rfl, rfl⟩)))), trivial⟩, hS.F ht⟩) hS.2.2 dX12_deviceOf_100
  · skip
    subst c1_
    refine lv_aload_n hx hb dX12_deviceOf_25 rfl (lv_at hl 1 rfl) ?_
    refine va_get (D := (dC, dI)) (ci := 12) (v := .ref (b 2)) (C := RX12) (T := TX12) (N := 59) hx hb hts i_X12_deviceOf_X12 hown hK hP 0 rfl rfl 3 (by decide) (hts _ m_X12_deviceOf_0) (fun _ h9 => h9) rfl dX12_deviceOf_26 ?_
    refine lv_iload_n hx hb dX12_deviceOf_29 rfl (lv_at hl 2 rfl) ?_
    refine lv_bipush (v := 8) hx hb dX12_deviceOf_30 (by decide) ?_
    refine lv_iadd hx hb dX12_deviceOf_32 ?_
    refine tk_i 8 (by decide) ?_
    refine va_iald hx hb hK hP 2 0 rfl rfl (show ¬ ((8 : Int32) < 0 ∨ 3408 ≤ Int32.toNatClampNeg 8) by decide) dX12_deviceOf_33 ?_
    refine tk_i 0 (by rfl) ?_
    refine lv_goto (tgt := 100) hx hb dX12_deviceOf_34 (by decide) ?_
    exact W.iret (v := 0) hx hb hr (fun t ht hW => ⟨⟨0, (), rfl, Or.inr (Or.inr (Or.inr (Or.inr (⟨rfl, rfl⟩)))), trivial⟩, hS.F ht⟩) hS.2.2 dX12_deviceOf_100

