theorem dX12_copy_0 : decode cX12_copy 0 = .ok (.iconst 0, 1) := by decide +kernel
theorem dX12_copy_1 : decode cX12_copy 1 = .ok (.istore 4, 2) := by decide +kernel
theorem dX12_copy_3 : decode cX12_copy 3 = .ok (.iload 4, 2) := by decide +kernel
theorem dX12_copy_5 : decode cX12_copy 5 = .ok (.sipush 3408, 3) := by decide +kernel
theorem dX12_copy_8 : decode cX12_copy 8 = .ok (.if_icmp .ge 21, 3) := by decide +kernel
theorem dX12_copy_11 : decode cX12_copy 11 = .ok (.aload_n 2, 1) := by decide +kernel
theorem dX12_copy_12 : decode cX12_copy 12 = .ok (.iload_n 3, 1) := by decide +kernel
theorem dX12_copy_13 : decode cX12_copy 13 = .ok (.iload 4, 2) := by decide +kernel
theorem dX12_copy_15 : decode cX12_copy 15 = .ok (.iadd, 1) := by decide +kernel
theorem dX12_copy_16 : decode cX12_copy 16 = .ok (.aload_n 0, 1) := by decide +kernel
theorem dX12_copy_17 : decode cX12_copy 17 = .ok (.iload_n 1, 1) := by decide +kernel
theorem dX12_copy_18 : decode cX12_copy 18 = .ok (.iload 4, 2) := by decide +kernel
theorem dX12_copy_20 : decode cX12_copy 20 = .ok (.iadd, 1) := by decide +kernel
theorem dX12_copy_21 : decode cX12_copy 21 = .ok (.iaload, 1) := by decide +kernel
theorem dX12_copy_22 : decode cX12_copy 22 = .ok (.iastore, 1) := by decide +kernel
theorem dX12_copy_23 : decode cX12_copy 23 = .ok (.iinc 4 1, 3) := by decide +kernel
theorem dX12_copy_26 : decode cX12_copy 26 = .ok (.goto (-23), 3) := by decide +kernel
theorem dX12_copy_29 : decode cX12_copy 29 = .ok (.return_, 1) := by decide +kernel
def v_X12_copy : List Cond := .code yX12_copy cX12_copy 5 none :: ([])
theorem copy_loop {p : Program} {l : Launch} {e : Env} {R : Room} {s : State} {m : MethodId} {args : Array Value} {below : List Frame} {meth : Method} {c : Code} {Q : State → Prop} {A : Nat → Prop} {dC : Nat → ClassId} {dI : Nat → Nat → Nat} {cy : Nat → ClassId} {x y n n2 : Nat} {f : Nat → Int32} (hn : 3408 ≤ n) (hn2 : 3408 ≤ n2) (hx : p.tables.exec = Jvm.exec) (hb : c.code = cX12_copy) (hK : va_K (dC, dI) vwCl (ft cy) s)
    (kend : ∀ (H : Heap) (locs : List Loc) (g : Nat → Int32) (ls : Array Slot), va_P (dC, dI) vwCl [(x, .inl (cy 0, n, .inl f)), (y, .inl (cy 0, n2, .inl g))] H → va_D A [(x, .inl (cy 0, n, .inl f)), (y, .inl (cy 0, n2, .inl g))] → va_S A s.heap H locs → W p l e R s m args below meth c H locs 0 0 Q (F0 m 29 ls [])) :
    ∀ (k i : Nat), i ≤ 3408 → 3408 - i < k → ∀ (H : Heap) (locs : List Loc) (g : Nat → Int32) (ls : Array Slot), va_P (dC, dI) vwCl [(x, .inl (cy 0, n, .inl f)), (y, .inl (cy 0, n2, .inl g))] H → va_D A [(x, .inl (cy 0, n, .inl f)), (y, .inl (cy 0, n2, .inl g))] → va_S A s.heap H locs → lv_has ls 5 [(4, .int (nI i)), (0, .ref x), (1, .int 0), (2, .ref y), (3, .int 0)] → W p l e R s m args below meth c H locs 0 0 Q (F0 m 3 ls []) := by
  intro k
  induction k with
  | zero => intro i _ h; exact absurd h (Nat.not_lt_zero _)
  | succ k ih =>
    intro i hi hk H locs g ls hP hD hS hl
    refine lv_iload hx hb dX12_copy_3 (lv_at hl 0 rfl) ?_
    refine lv_sipush (v := nI 3408) hx hb dX12_copy_5 (by decide) ?_
    refine lv_icmp_ge (tgt := 29) hx hb dX12_copy_8 (by decide) (fun c1 => ?_) (fun c1 => ?_)
    · exact kend H locs g ls hP hD hS
    · have e : i < 3408 := Nat.lt_of_not_le (fun q => c1 ((nI_leI (by decide) (by omega)).mpr q))
      have vi : ∀ q : Nat, 3408 ≤ q → vp_in (nI i) q := fun q hq => by
        rw [vp_in_iff, nI_toInt (by omega)]
        omega
      refine lv_aload_n hx hb dX12_copy_11 rfl (lv_at hl 3 rfl) ?_
      refine lv_iload_n hx hb dX12_copy_12 rfl (lv_at hl 4 rfl) ?_
      refine lv_iload hx hb dX12_copy_13 (lv_at hl 0 rfl) ?_
      refine lv_iadd hx hb dX12_copy_15 ?_
      refine tk_i (nI i) (Int32.zero_add _) ?_
      refine lv_aload_n hx hb dX12_copy_16 rfl (lv_at hl 1 rfl) ?_
      refine lv_iload_n hx hb dX12_copy_17 rfl (lv_at hl 2 rfl) ?_
      refine lv_iload hx hb dX12_copy_18 (lv_at hl 0 rfl) ?_
      refine lv_iadd hx hb dX12_copy_20 ?_
      refine tk_i (nI i) (Int32.zero_add _) ?_
      refine va_iald hx hb hK hP 0 0 rfl rfl (vi n hn) dX12_copy_21 ?_
      refine va_iast hx hb hK hP hD hS 1 0 rfl rfl (vi n2 hn2) dX12_copy_22 (fun H locs hP hD hS => ?_)
      refine lv_iinc (v := nI (i + 1)) (lv' := [(4, .int (nI (i + 1))), (0, .ref x), (1, .int 0), (2, .ref y), (3, .int 0)]) hx hb dX12_copy_23 hl (k := 0) rfl (nI_1 i) (by decide) rfl (fun ls hl => ?_)
      refine lv_goto (tgt := 3) hx hb dX12_copy_26 (by decide) ?_
      exact ih (i + 1) (by omega) (by omega) H locs _ ls hP hD hS hl
set_option maxHeartbeats 4000000 in
set_option maxRecDepth 100000 in
theorem c_X12_copy (l : Launch) (dC : Nat → ClassId) (dI : Nat → Nat → Nat) (cy : Nat → ClassId) (x y n n2 : Nat) (f f2 : Nat → Int32) (sz : Nat) (hn : 3408 ≤ n) (hn2 : 3408 ≤ n2) : Met l yX12_copy v_X12_copy ({ frames := 0, cells := 0, slots := 0, locals := 0 }) (va_Pc [.ref x, .int 0, .ref y, .int 0] (ps dC dI cy ([(x, .inl (cy 0, n, .inl f)), (y, .inl (cy 0, n2, .inl f2))]) sz)) (va_Qv (fun (_ : uS) => True) (fun (u : uS) (t : State) => va_P (dC, dI) vwCl ([(x, .inl (cy 0, n, .inl f)), (y, .inl (cy 0, n2, .inl (u.2.1 0)))]) t.heap ∧ va_D (va_A ([(x, .inl (cy 0, n, .inl f)), (y, .inl (cy 0, n2, .inl f2))]) sz) ([(x, .inl (cy 0, n, .inl f)), (y, .inl (cy 0, n2, .inl (u.2.1 0)))])) (va_A ([(x, .inl (cy 0, n, .inl f)), (y, .inl (cy 0, n2, .inl f2))]) sz)) 0 0 (va_A ([(x, .inl (cy 0, n, .inl f)), (y, .inl (cy 0, n2, .inl f2))]) sz) := by
  refine Met.ofW (cc := cX12_copy) (maxL := 5) (ret := none) (by decide) rfl ?_
  intro p e s m args below meth c s₁ B hml hv
  obtain ⟨rfl, hsz, hP, hC, hD0⟩ := hv
  have hK := hC.1
  have hx := B.exec
  have hb := B.bytes
  have hr := B.returns
  have hlocks := B.notSynchronized
  subst hsz
  have hD := hD0.self (sz := s.heap.size)
  generalize hAe : va_A ([(x, .inl (cy 0, n, .inl f)), (y, .inl (cy 0, n2, .inl f2))]) s.heap.size = A at hD ⊢
  have hS : va_S A s.heap s.heap [] := va_S.rf
  have hl := lv_entry ([.ref x, .int 0, .ref y, .int 0]) (n := 5) (Nat.le_of_ble_eq_true rfl)
  rw [lg_entry_eq]
  generalize (lg_sl ([.ref x, .int 0, .ref y, .int 0]) ++ List.replicate (5 - (lg_sl ([.ref x, .int 0, .ref y, .int 0])).length) Slot.unset).toArray = ls at hl ⊢
  have hl : lv_has ls 5 [(0, .ref x), (1, .int 0), (2, .ref y), (3, .int 0)] := hl
  refine lv_iconst (v := 0) hx hb dX12_copy_0 (by decide) ?_
  refine lv_istore (lv' := [(4, .int 0), (0, .ref x), (1, .int 0), (2, .ref y), (3, .int 0)]) hx hb dX12_copy_1 hl (by decide) rfl (fun ls hl => ?_)
  refine copy_loop hn hn2 hx hb hK (fun H locs g ls hP hD hS => ?_) 3409 0 (Nat.zero_le _) (by omega) s.heap [] f2 ls hP hD hS hl
  exact W.vret hx hb hr (fun t ht hW => ⟨⟨((fun _ => 0, fun _ => g, fun _ _ => none) : uS), rfl, trivial, (by rw [ht]; exact hP), hD⟩, hS.F ht⟩) hS.2.2 dX12_copy_29

theorem dX12_refuse_0 : decode cX12_refuse 0 = .ok (.aload_n 0, 1) := by decide +kernel
theorem dX12_refuse_1 : decode cX12_refuse 1 = .ok (.iload_n 1, 1) := by decide +kernel
theorem dX12_refuse_2 : decode cX12_refuse 2 = .ok (.putfield 108, 3) := by decide +kernel
theorem dX12_refuse_5 : decode cX12_refuse 5 = .ok (.aload_n 0, 1) := by decide +kernel
theorem dX12_refuse_6 : decode cX12_refuse 6 = .ok (.getfield 7, 3) := by decide +kernel
theorem dX12_refuse_9 : decode cX12_refuse 9 = .ok (.iload_n 1, 1) := by decide +kernel
theorem dX12_refuse_10 : decode cX12_refuse 10 = .ok (.ineg, 1) := by decide +kernel
theorem dX12_refuse_11 : decode cX12_refuse 11 = .ok (.dup2, 1) := by decide +kernel
theorem dX12_refuse_12 : decode cX12_refuse 12 = .ok (.iaload, 1) := by decide +kernel
theorem dX12_refuse_13 : decode cX12_refuse 13 = .ok (.iconst 1, 1) := by decide +kernel
theorem dX12_refuse_14 : decode cX12_refuse 14 = .ok (.iadd, 1) := by decide +kernel
theorem dX12_refuse_15 : decode cX12_refuse 15 = .ok (.iastore, 1) := by decide +kernel
theorem dX12_refuse_16 : decode cX12_refuse 16 = .ok (.iload_n 1, 1) := by decide +kernel
theorem dX12_refuse_17 : decode cX12_refuse 17 = .ok (.ireturn, 1) := by decide +kernel
def v_X12_refuse : List Cond := .code yX12_refuse cX12_refuse 2 (some .int) :: ([.fieldLink RX12 108 "RestBoardModel" "status" "I", .fieldLink RX12 7 "RestBoardModel" "refusals" "[I"] ++ wsX120)
theorem m_X12_refuse_0 : (.fieldLink RX12 108 "RestBoardModel" "status" "I" : Cond) ∈ v_X12_refuse := List.mem_of_getElem? (i := 1) (by decide +kernel)
theorem m_X12_refuse_1 : (.fieldLink RX12 7 "RestBoardModel" "refusals" "[I" : Cond) ∈ v_X12_refuse := List.mem_of_getElem? (i := 2) (by decide +kernel)
theorem i_X12_refuse_X12 : ∀ w ∈ u_ws RX12 TX12 59, w ∈ v_X12_refuse := fun w h => List.mem_cons_of_mem _ (List.mem_append_right _ h)
set_option maxHeartbeats 4000000 in
set_option maxRecDepth 100000 in
theorem c_X12_refuse_1 (l : Launch) (dC : Nat → ClassId) (dI : Nat → Nat → Nat) (cy : Nat → ClassId) (b : Nat → Nat) (sz : Nat) (o_bad o_fault o_taped o_nUndo o_spot o_limit o_latestSteps o_thrown o_status : Int32) : Met l yX12_refuse v_X12_refuse ({ frames := 0, cells := 0, slots := 0, locals := 0 }) (va_Pc [.ref (b 0), .int (-1)] (ps dC dI cy ([(b 0, .inr (12, [.int o_thrown, .int o_status, .ref (b 1), .ref (b 2), .ref (b 3), .ref (b 4), .int o_nUndo, .ref (b 5), .ref (b 6), .int o_taped, .int o_spot, .int o_limit, .int o_fault, .int o_bad, .ref (b 7), .ref (b 20), .int 0, .ref (b 21), .ref (b 22), .int 0, .int 0, .ref (b 23), .int 0, .int 0, .int 0, .int 0, .ref (b 24), .ref (b 25), .ref (b 26), .int 0, .ref (b 27), .int 0, .ref (b 28), .ref (b 29), .ref (b 30), .ref (b 31), .ref (b 32), .ref (b 33), .ref (b 34), .int 0, .int 0, .int 0, .int 0, .int 0, .int 0, .ref (b 35), .ref (b 36), .ref (b 37), .int 0, .int 0, .int 0, .ref (b 38), .int o_latestSteps, .int 0, .ref (b 39), .ref (b 40), .ref (b 41), .ref (b 42), .int 0])), (b 1, .inl (cy 0, 8, .inl (fun _ => 0)))]) sz)) (va_Qi (fun (r : Int32) (_ : Unit) => r = (-1)) (fun _ _ => True) (va_A ([(b 0, .inr (12, [.int o_thrown, .int o_status, .ref (b 1), .ref (b 2), .ref (b 3), .ref (b 4), .int o_nUndo, .ref (b 5), .ref (b 6), .int o_taped, .int o_spot, .int o_limit, .int o_fault, .int o_bad, .ref (b 7), .ref (b 20), .int 0, .ref (b 21), .ref (b 22), .int 0, .int 0, .ref (b 23), .int 0, .int 0, .int 0, .int 0, .ref (b 24), .ref (b 25), .ref (b 26), .int 0, .ref (b 27), .int 0, .ref (b 28), .ref (b 29), .ref (b 30), .ref (b 31), .ref (b 32), .ref (b 33), .ref (b 34), .int 0, .int 0, .int 0, .int 0, .int 0, .int 0, .ref (b 35), .ref (b 36), .ref (b 37), .int 0, .int 0, .int 0, .ref (b 38), .int o_latestSteps, .int 0, .ref (b 39), .ref (b 40), .ref (b 41), .ref (b 42), .int 0])), (b 1, .inl (cy 0, 8, .inl (fun _ => 0)))]) sz)) 0 0 (va_A ([(b 0, .inr (12, [.int o_thrown, .int o_status, .ref (b 1), .ref (b 2), .ref (b 3), .ref (b 4), .int o_nUndo, .ref (b 5), .ref (b 6), .int o_taped, .int o_spot, .int o_limit, .int o_fault, .int o_bad, .ref (b 7), .ref (b 20), .int 0, .ref (b 21), .ref (b 22), .int 0, .int 0, .ref (b 23), .int 0, .int 0, .int 0, .int 0, .ref (b 24), .ref (b 25), .ref (b 26), .int 0, .ref (b 27), .int 0, .ref (b 28), .ref (b 29), .ref (b 30), .ref (b 31), .ref (b 32), .ref (b 33), .ref (b 34), .int 0, .int 0, .int 0, .int 0, .int 0, .int 0, .ref (b 35), .ref (b 36), .ref (b 37), .int 0, .int 0, .int 0, .ref (b 38), .int o_latestSteps, .int 0, .ref (b 39), .ref (b 40), .ref (b 41), .ref (b 42), .int 0])), (b 1, .inl (cy 0, 8, .inl (fun _ => 0)))]) sz) := by
  refine Met.ofW (cc := cX12_refuse) (maxL := 2) (ret := (some .int)) (by decide) rfl ?_
  intro p e s m args below meth c s₁ B hml hv
  obtain ⟨rfl, hsz, hP, hC, hD0⟩ := hv
  have hK := hC.1
  have hx := B.exec
  have hb := B.bytes
  have hr := B.returns
  have hts := atoms_spec (ws := v_X12_refuse) B.pre
  have hown : s.vm.findClass RX12 = some m.cls := findClass_of_methodNamed B.named
  have hlocks := B.notSynchronized
  subst hsz
  have hD := hD0.self (sz := s.heap.size)
  generalize hAe : va_A ([(b 0, .inr (12, [.int o_thrown, .int o_status, .ref (b 1), .ref (b 2), .ref (b 3), .ref (b 4), .int o_nUndo, .ref (b 5), .ref (b 6), .int o_taped, .int o_spot, .int o_limit, .int o_fault, .int o_bad, .ref (b 7), .ref (b 20), .int 0, .ref (b 21), .ref (b 22), .int 0, .int 0, .ref (b 23), .int 0, .int 0, .int 0, .int 0, .ref (b 24), .ref (b 25), .ref (b 26), .int 0, .ref (b 27), .int 0, .ref (b 28), .ref (b 29), .ref (b 30), .ref (b 31), .ref (b 32), .ref (b 33), .ref (b 34), .int 0, .int 0, .int 0, .int 0, .int 0, .int 0, .ref (b 35), .ref (b 36), .ref (b 37), .int 0, .int 0, .int 0, .ref (b 38), .int o_latestSteps, .int 0, .ref (b 39), .ref (b 40), .ref (b 41), .ref (b 42), .int 0])), (b 1, .inl (cy 0, 8, .inl (fun _ => 0)))]) s.heap.size = A at hD ⊢
  have hA : ∀ q : Nat, s.heap.size ≤ q → A q := fun q h => by rw [← hAe]; exact Or.inr h
  have hS : va_S A s.heap s.heap [] := va_S.rf
  have hl := lv_entry ([.ref (b 0), .int (-1)]) (n := 2) (Nat.le_of_ble_eq_true rfl)
  rw [lg_entry_eq]
  generalize (lg_sl ([.ref (b 0), .int (-1)]) ++ List.replicate (2 - (lg_sl ([.ref (b 0), .int (-1)])).length) Slot.unset).toArray = ls at hl ⊢
  have hl : lv_has ls 2 [(0, .ref (b 0)), (1, .int (-1))] := hl
  refine lv_aload_n hx hb dX12_refuse_0 rfl (lv_at hl 0 rfl) ?_
  refine lv_iload_n hx hb dX12_refuse_1 rfl (lv_at hl 1 rfl) ?_
  refine va_put (D := (dC, dI)) (ci := 12) (v := .int (-1)) (ty := .int) (C := RX12) (T := TX12) (N := 59) hx hb hts i_X12_refuse_X12 tyX12 tyX12_ok nmX12 hown hK hP hD hS 0 rfl rfl 1 (by decide) (hts _ m_X12_refuse_0) (fun _ h9 => h9) rfl (by decide +kernel) rfl rfl (Nat.le_of_ble_eq_true rfl) dX12_refuse_2 (fun H locs hP hD hS => ?_)
  refine lv_aload_n hx hb dX12_refuse_5 rfl (lv_at hl 0 rfl) ?_
  refine va_get (D := (dC, dI)) (ci := 12) (v := .ref (b 1)) (C := RX12) (T := TX12) (N := 59) hx hb hts i_X12_refuse_X12 hown hK hP 0 rfl rfl 2 (by decide) (hts _ m_X12_refuse_1) (fun _ h9 => h9) rfl dX12_refuse_6 ?_
  refine lv_iload_n hx hb dX12_refuse_9 rfl (lv_at hl 1 rfl) ?_
  refine lv_ineg hx hb dX12_refuse_10 ?_
  refine tk_i 1 (by decide) ?_
  refine lv_dup2_11 hx hb dX12_refuse_11 rfl rfl ?_
  refine va_iald hx hb hK hP 1 0 rfl rfl (show ¬ ((1 : Int32) < 0 ∨ 8 ≤ Int32.toNatClampNeg 1) by decide) dX12_refuse_12 ?_
  refine tk_i 0 (by rfl) ?_
  refine lv_iconst (v := 1) hx hb dX12_refuse_13 (by decide) ?_
  refine lv_iadd hx hb dX12_refuse_14 ?_
  refine tk_i 1 (by decide) ?_
  refine va_iast hx hb hK hP hD hS 1 0 rfl rfl (show ¬ ((1 : Int32) < 0 ∨ 8 ≤ Int32.toNatClampNeg 1) by decide) dX12_refuse_15 (fun H locs hP hD hS => ?_)
  refine lv_iload_n hx hb dX12_refuse_16 rfl (lv_at hl 1 rfl) ?_
  exact W.iret (v := (-1)) hx hb hr (fun t ht hW => ⟨⟨(-1), (), rfl, rfl, trivial⟩, hS.F ht⟩) hS.2.2 dX12_refuse_17

set_option maxHeartbeats 4000000 in
set_option maxRecDepth 100000 in
theorem c_X12_refuse_2 (l : Launch) (dC : Nat → ClassId) (dI : Nat → Nat → Nat) (cy : Nat → ClassId) (b : Nat → Nat) (sz : Nat) (o_bad o_fault o_taped o_nUndo o_spot o_limit o_latestSteps o_thrown o_status : Int32) : Met l yX12_refuse v_X12_refuse ({ frames := 0, cells := 0, slots := 0, locals := 0 }) (va_Pc [.ref (b 0), .int (-2)] (ps dC dI cy ([(b 0, .inr (12, [.int o_thrown, .int o_status, .ref (b 1), .ref (b 2), .ref (b 3), .ref (b 4), .int o_nUndo, .ref (b 5), .ref (b 6), .int o_taped, .int o_spot, .int o_limit, .int o_fault, .int o_bad, .ref (b 7), .ref (b 20), .int 0, .ref (b 21), .ref (b 22), .int 0, .int 0, .ref (b 23), .int 0, .int 0, .int 0, .int 0, .ref (b 24), .ref (b 25), .ref (b 26), .int 0, .ref (b 27), .int 0, .ref (b 28), .ref (b 29), .ref (b 30), .ref (b 31), .ref (b 32), .ref (b 33), .ref (b 34), .int 0, .int 0, .int 0, .int 0, .int 0, .int 0, .ref (b 35), .ref (b 36), .ref (b 37), .int 0, .int 0, .int 0, .ref (b 38), .int o_latestSteps, .int 0, .ref (b 39), .ref (b 40), .ref (b 41), .ref (b 42), .int 0])), (b 1, .inl (cy 0, 8, .inl (fun _ => 0)))]) sz)) (va_Qi (fun (r : Int32) (_ : Unit) => r = (-2)) (fun _ _ => True) (va_A ([(b 0, .inr (12, [.int o_thrown, .int o_status, .ref (b 1), .ref (b 2), .ref (b 3), .ref (b 4), .int o_nUndo, .ref (b 5), .ref (b 6), .int o_taped, .int o_spot, .int o_limit, .int o_fault, .int o_bad, .ref (b 7), .ref (b 20), .int 0, .ref (b 21), .ref (b 22), .int 0, .int 0, .ref (b 23), .int 0, .int 0, .int 0, .int 0, .ref (b 24), .ref (b 25), .ref (b 26), .int 0, .ref (b 27), .int 0, .ref (b 28), .ref (b 29), .ref (b 30), .ref (b 31), .ref (b 32), .ref (b 33), .ref (b 34), .int 0, .int 0, .int 0, .int 0, .int 0, .int 0, .ref (b 35), .ref (b 36), .ref (b 37), .int 0, .int 0, .int 0, .ref (b 38), .int o_latestSteps, .int 0, .ref (b 39), .ref (b 40), .ref (b 41), .ref (b 42), .int 0])), (b 1, .inl (cy 0, 8, .inl (fun _ => 0)))]) sz)) 0 0 (va_A ([(b 0, .inr (12, [.int o_thrown, .int o_status, .ref (b 1), .ref (b 2), .ref (b 3), .ref (b 4), .int o_nUndo, .ref (b 5), .ref (b 6), .int o_taped, .int o_spot, .int o_limit, .int o_fault, .int o_bad, .ref (b 7), .ref (b 20), .int 0, .ref (b 21), .ref (b 22), .int 0, .int 0, .ref (b 23), .int 0, .int 0, .int 0, .int 0, .ref (b 24), .ref (b 25), .ref (b 26), .int 0, .ref (b 27), .int 0, .ref (b 28), .ref (b 29), .ref (b 30), .ref (b 31), .ref (b 32), .ref (b 33), .ref (b 34), .int 0, .int 0, .int 0, .int 0, .int 0, .int 0, .ref (b 35), .ref (b 36), .ref (b 37), .int 0, .int 0, .int 0, .ref (b 38), .int o_latestSteps, .int 0, .ref (b 39), .ref (b 40), .ref (b 41), .ref (b 42), .int 0])), (b 1, .inl (cy 0, 8, .inl (fun _ => 0)))]) sz) := by
  refine Met.ofW (cc := cX12_refuse) (maxL := 2) (ret := (some .int)) (by decide) rfl ?_
  intro p e s m args below meth c s₁ B hml hv
  obtain ⟨rfl, hsz, hP, hC, hD0⟩ := hv
  have hK := hC.1
  have hx := B.exec
  have hb := B.bytes
  have hr := B.returns
  have hts := atoms_spec (ws := v_X12_refuse) B.pre
  have hown : s.vm.findClass RX12 = some m.cls := findClass_of_methodNamed B.named
  have hlocks := B.notSynchronized
  subst hsz
  have hD := hD0.self (sz := s.heap.size)
  generalize hAe : va_A ([(b 0, .inr (12, [.int o_thrown, .int o_status, .ref (b 1), .ref (b 2), .ref (b 3), .ref (b 4), .int o_nUndo, .ref (b 5), .ref (b 6), .int o_taped, .int o_spot, .int o_limit, .int o_fault, .int o_bad, .ref (b 7), .ref (b 20), .int 0, .ref (b 21), .ref (b 22), .int 0, .int 0, .ref (b 23), .int 0, .int 0, .int 0, .int 0, .ref (b 24), .ref (b 25), .ref (b 26), .int 0, .ref (b 27), .int 0, .ref (b 28), .ref (b 29), .ref (b 30), .ref (b 31), .ref (b 32), .ref (b 33), .ref (b 34), .int 0, .int 0, .int 0, .int 0, .int 0, .int 0, .ref (b 35), .ref (b 36), .ref (b 37), .int 0, .int 0, .int 0, .ref (b 38), .int o_latestSteps, .int 0, .ref (b 39), .ref (b 40), .ref (b 41), .ref (b 42), .int 0])), (b 1, .inl (cy 0, 8, .inl (fun _ => 0)))]) s.heap.size = A at hD ⊢
  have hA : ∀ q : Nat, s.heap.size ≤ q → A q := fun q h => by rw [← hAe]; exact Or.inr h
  have hS : va_S A s.heap s.heap [] := va_S.rf
  have hl := lv_entry ([.ref (b 0), .int (-2)]) (n := 2) (Nat.le_of_ble_eq_true rfl)
  rw [lg_entry_eq]
  generalize (lg_sl ([.ref (b 0), .int (-2)]) ++ List.replicate (2 - (lg_sl ([.ref (b 0), .int (-2)])).length) Slot.unset).toArray = ls at hl ⊢
  have hl : lv_has ls 2 [(0, .ref (b 0)), (1, .int (-2))] := hl
  refine lv_aload_n hx hb dX12_refuse_0 rfl (lv_at hl 0 rfl) ?_
  refine lv_iload_n hx hb dX12_refuse_1 rfl (lv_at hl 1 rfl) ?_
  refine va_put (D := (dC, dI)) (ci := 12) (v := .int (-2)) (ty := .int) (C := RX12) (T := TX12) (N := 59) hx hb hts i_X12_refuse_X12 tyX12 tyX12_ok nmX12 hown hK hP hD hS 0 rfl rfl 1 (by decide) (hts _ m_X12_refuse_0) (fun _ h9 => h9) rfl (by decide +kernel) rfl rfl (Nat.le_of_ble_eq_true rfl) dX12_refuse_2 (fun H locs hP hD hS => ?_)
  refine lv_aload_n hx hb dX12_refuse_5 rfl (lv_at hl 0 rfl) ?_
  refine va_get (D := (dC, dI)) (ci := 12) (v := .ref (b 1)) (C := RX12) (T := TX12) (N := 59) hx hb hts i_X12_refuse_X12 hown hK hP 0 rfl rfl 2 (by decide) (hts _ m_X12_refuse_1) (fun _ h9 => h9) rfl dX12_refuse_6 ?_
  refine lv_iload_n hx hb dX12_refuse_9 rfl (lv_at hl 1 rfl) ?_
  refine lv_ineg hx hb dX12_refuse_10 ?_
  refine tk_i 2 (by decide) ?_
  refine lv_dup2_11 hx hb dX12_refuse_11 rfl rfl ?_
  refine va_iald hx hb hK hP 1 0 rfl rfl (show ¬ ((2 : Int32) < 0 ∨ 8 ≤ Int32.toNatClampNeg 2) by decide) dX12_refuse_12 ?_
  refine tk_i 0 (by rfl) ?_
  refine lv_iconst (v := 1) hx hb dX12_refuse_13 (by decide) ?_
  refine lv_iadd hx hb dX12_refuse_14 ?_
  refine tk_i 1 (by decide) ?_
  refine va_iast hx hb hK hP hD hS 1 0 rfl rfl (show ¬ ((2 : Int32) < 0 ∨ 8 ≤ Int32.toNatClampNeg 2) by decide) dX12_refuse_15 (fun H locs hP hD hS => ?_)
  refine lv_iload_n hx hb dX12_refuse_16 rfl (lv_at hl 1 rfl) ?_
  exact W.iret (v := (-2)) hx hb hr (fun t ht hW => ⟨⟨(-2), (), rfl, rfl, trivial⟩, hS.F ht⟩) hS.2.2 dX12_refuse_17

set_option maxHeartbeats 4000000 in
set_option maxRecDepth 100000 in
theorem c_X12_refuse_3 (l : Launch) (dC : Nat → ClassId) (dI : Nat → Nat → Nat) (cy : Nat → ClassId) (b : Nat → Nat) (sz : Nat) (o_bad o_fault o_taped o_nUndo o_spot o_limit o_latestSteps o_thrown o_status : Int32) : Met l yX12_refuse v_X12_refuse ({ frames := 0, cells := 0, slots := 0, locals := 0 }) (va_Pc [.ref (b 0), .int (-3)] (ps dC dI cy ([(b 0, .inr (12, [.int o_thrown, .int o_status, .ref (b 1), .ref (b 2), .ref (b 3), .ref (b 4), .int o_nUndo, .ref (b 5), .ref (b 6), .int o_taped, .int o_spot, .int o_limit, .int o_fault, .int o_bad, .ref (b 7), .ref (b 20), .int 0, .ref (b 21), .ref (b 22), .int 0, .int 0, .ref (b 23), .int 0, .int 0, .int 0, .int 0, .ref (b 24), .ref (b 25), .ref (b 26), .int 0, .ref (b 27), .int 0, .ref (b 28), .ref (b 29), .ref (b 30), .ref (b 31), .ref (b 32), .ref (b 33), .ref (b 34), .int 0, .int 0, .int 0, .int 0, .int 0, .int 0, .ref (b 35), .ref (b 36), .ref (b 37), .int 0, .int 0, .int 0, .ref (b 38), .int o_latestSteps, .int 0, .ref (b 39), .ref (b 40), .ref (b 41), .ref (b 42), .int 0])), (b 1, .inl (cy 0, 8, .inl (fun _ => 0)))]) sz)) (va_Qi (fun (r : Int32) (_ : Unit) => r = (-3)) (fun _ _ => True) (va_A ([(b 0, .inr (12, [.int o_thrown, .int o_status, .ref (b 1), .ref (b 2), .ref (b 3), .ref (b 4), .int o_nUndo, .ref (b 5), .ref (b 6), .int o_taped, .int o_spot, .int o_limit, .int o_fault, .int o_bad, .ref (b 7), .ref (b 20), .int 0, .ref (b 21), .ref (b 22), .int 0, .int 0, .ref (b 23), .int 0, .int 0, .int 0, .int 0, .ref (b 24), .ref (b 25), .ref (b 26), .int 0, .ref (b 27), .int 0, .ref (b 28), .ref (b 29), .ref (b 30), .ref (b 31), .ref (b 32), .ref (b 33), .ref (b 34), .int 0, .int 0, .int 0, .int 0, .int 0, .int 0, .ref (b 35), .ref (b 36), .ref (b 37), .int 0, .int 0, .int 0, .ref (b 38), .int o_latestSteps, .int 0, .ref (b 39), .ref (b 40), .ref (b 41), .ref (b 42), .int 0])), (b 1, .inl (cy 0, 8, .inl (fun _ => 0)))]) sz)) 0 0 (va_A ([(b 0, .inr (12, [.int o_thrown, .int o_status, .ref (b 1), .ref (b 2), .ref (b 3), .ref (b 4), .int o_nUndo, .ref (b 5), .ref (b 6), .int o_taped, .int o_spot, .int o_limit, .int o_fault, .int o_bad, .ref (b 7), .ref (b 20), .int 0, .ref (b 21), .ref (b 22), .int 0, .int 0, .ref (b 23), .int 0, .int 0, .int 0, .int 0, .ref (b 24), .ref (b 25), .ref (b 26), .int 0, .ref (b 27), .int 0, .ref (b 28), .ref (b 29), .ref (b 30), .ref (b 31), .ref (b 32), .ref (b 33), .ref (b 34), .int 0, .int 0, .int 0, .int 0, .int 0, .int 0, .ref (b 35), .ref (b 36), .ref (b 37), .int 0, .int 0, .int 0, .ref (b 38), .int o_latestSteps, .int 0, .ref (b 39), .ref (b 40), .ref (b 41), .ref (b 42), .int 0])), (b 1, .inl (cy 0, 8, .inl (fun _ => 0)))]) sz) := by
  refine Met.ofW (cc := cX12_refuse) (maxL := 2) (ret := (some .int)) (by decide) rfl ?_
  intro p e s m args below meth c s₁ B hml hv
  obtain ⟨rfl, hsz, hP, hC, hD0⟩ := hv
  have hK := hC.1
  have hx := B.exec
  have hb := B.bytes
  have hr := B.returns
  have hts := atoms_spec (ws := v_X12_refuse) B.pre
  have hown : s.vm.findClass RX12 = some m.cls := findClass_of_methodNamed B.named
  have hlocks := B.notSynchronized
  subst hsz
  have hD := hD0.self (sz := s.heap.size)
  generalize hAe : va_A ([(b 0, .inr (12, [.int o_thrown, .int o_status, .ref (b 1), .ref (b 2), .ref (b 3), .ref (b 4), .int o_nUndo, .ref (b 5), .ref (b 6), .int o_taped, .int o_spot, .int o_limit, .int o_fault, .int o_bad, .ref (b 7), .ref (b 20), .int 0, .ref (b 21), .ref (b 22), .int 0, .int 0, .ref (b 23), .int 0, .int 0, .int 0, .int 0, .ref (b 24), .ref (b 25), .ref (b 26), .int 0, .ref (b 27), .int 0, .ref (b 28), .ref (b 29), .ref (b 30), .ref (b 31), .ref (b 32), .ref (b 33), .ref (b 34), .int 0, .int 0, .int 0, .int 0, .int 0, .int 0, .ref (b 35), .ref (b 36), .ref (b 37), .int 0, .int 0, .int 0, .ref (b 38), .int o_latestSteps, .int 0, .ref (b 39), .ref (b 40), .ref (b 41), .ref (b 42), .int 0])), (b 1, .inl (cy 0, 8, .inl (fun _ => 0)))]) s.heap.size = A at hD ⊢
  have hA : ∀ q : Nat, s.heap.size ≤ q → A q := fun q h => by rw [← hAe]; exact Or.inr h
  have hS : va_S A s.heap s.heap [] := va_S.rf
  have hl := lv_entry ([.ref (b 0), .int (-3)]) (n := 2) (Nat.le_of_ble_eq_true rfl)
  rw [lg_entry_eq]
  generalize (lg_sl ([.ref (b 0), .int (-3)]) ++ List.replicate (2 - (lg_sl ([.ref (b 0), .int (-3)])).length) Slot.unset).toArray = ls at hl ⊢
  have hl : lv_has ls 2 [(0, .ref (b 0)), (1, .int (-3))] := hl
  refine lv_aload_n hx hb dX12_refuse_0 rfl (lv_at hl 0 rfl) ?_
  refine lv_iload_n hx hb dX12_refuse_1 rfl (lv_at hl 1 rfl) ?_
  refine va_put (D := (dC, dI)) (ci := 12) (v := .int (-3)) (ty := .int) (C := RX12) (T := TX12) (N := 59) hx hb hts i_X12_refuse_X12 tyX12 tyX12_ok nmX12 hown hK hP hD hS 0 rfl rfl 1 (by decide) (hts _ m_X12_refuse_0) (fun _ h9 => h9) rfl (by decide +kernel) rfl rfl (Nat.le_of_ble_eq_true rfl) dX12_refuse_2 (fun H locs hP hD hS => ?_)
  refine lv_aload_n hx hb dX12_refuse_5 rfl (lv_at hl 0 rfl) ?_
  refine va_get (D := (dC, dI)) (ci := 12) (v := .ref (b 1)) (C := RX12) (T := TX12) (N := 59) hx hb hts i_X12_refuse_X12 hown hK hP 0 rfl rfl 2 (by decide) (hts _ m_X12_refuse_1) (fun _ h9 => h9) rfl dX12_refuse_6 ?_
  refine lv_iload_n hx hb dX12_refuse_9 rfl (lv_at hl 1 rfl) ?_
  refine lv_ineg hx hb dX12_refuse_10 ?_
  refine tk_i 3 (by decide) ?_
  refine lv_dup2_11 hx hb dX12_refuse_11 rfl rfl ?_
  refine va_iald hx hb hK hP 1 0 rfl rfl (show ¬ ((3 : Int32) < 0 ∨ 8 ≤ Int32.toNatClampNeg 3) by decide) dX12_refuse_12 ?_
  refine tk_i 0 (by rfl) ?_
  refine lv_iconst (v := 1) hx hb dX12_refuse_13 (by decide) ?_
  refine lv_iadd hx hb dX12_refuse_14 ?_
  refine tk_i 1 (by decide) ?_
  refine va_iast hx hb hK hP hD hS 1 0 rfl rfl (show ¬ ((3 : Int32) < 0 ∨ 8 ≤ Int32.toNatClampNeg 3) by decide) dX12_refuse_15 (fun H locs hP hD hS => ?_)
  refine lv_iload_n hx hb dX12_refuse_16 rfl (lv_at hl 1 rfl) ?_
  exact W.iret (v := (-3)) hx hb hr (fun t ht hW => ⟨⟨(-3), (), rfl, rfl, trivial⟩, hS.F ht⟩) hS.2.2 dX12_refuse_17

set_option maxHeartbeats 4000000 in
set_option maxRecDepth 100000 in
theorem c_X12_refuse_4 (l : Launch) (dC : Nat → ClassId) (dI : Nat → Nat → Nat) (cy : Nat → ClassId) (b : Nat → Nat) (sz : Nat) (o_bad o_fault o_taped o_nUndo o_spot o_limit o_latestSteps o_thrown o_status : Int32) : Met l yX12_refuse v_X12_refuse ({ frames := 0, cells := 0, slots := 0, locals := 0 }) (va_Pc [.ref (b 0), .int (-4)] (ps dC dI cy ([(b 0, .inr (12, [.int o_thrown, .int o_status, .ref (b 1), .ref (b 2), .ref (b 3), .ref (b 4), .int o_nUndo, .ref (b 5), .ref (b 6), .int o_taped, .int o_spot, .int o_limit, .int o_fault, .int o_bad, .ref (b 7), .ref (b 20), .int 0, .ref (b 21), .ref (b 22), .int 0, .int 0, .ref (b 23), .int 0, .int 0, .int 0, .int 0, .ref (b 24), .ref (b 25), .ref (b 26), .int 0, .ref (b 27), .int 0, .ref (b 28), .ref (b 29), .ref (b 30), .ref (b 31), .ref (b 32), .ref (b 33), .ref (b 34), .int 0, .int 0, .int 0, .int 0, .int 0, .int 0, .ref (b 35), .ref (b 36), .ref (b 37), .int 0, .int 0, .int 0, .ref (b 38), .int o_latestSteps, .int 0, .ref (b 39), .ref (b 40), .ref (b 41), .ref (b 42), .int 0])), (b 1, .inl (cy 0, 8, .inl (fun _ => 0)))]) sz)) (va_Qi (fun (r : Int32) (_ : Unit) => r = (-4)) (fun _ _ => True) (va_A ([(b 0, .inr (12, [.int o_thrown, .int o_status, .ref (b 1), .ref (b 2), .ref (b 3), .ref (b 4), .int o_nUndo, .ref (b 5), .ref (b 6), .int o_taped, .int o_spot, .int o_limit, .int o_fault, .int o_bad, .ref (b 7), .ref (b 20), .int 0, .ref (b 21), .ref (b 22), .int 0, .int 0, .ref (b 23), .int 0, .int 0, .int 0, .int 0, .ref (b 24), .ref (b 25), .ref (b 26), .int 0, .ref (b 27), .int 0, .ref (b 28), .ref (b 29), .ref (b 30), .ref (b 31), .ref (b 32), .ref (b 33), .ref (b 34), .int 0, .int 0, .int 0, .int 0, .int 0, .int 0, .ref (b 35), .ref (b 36), .ref (b 37), .int 0, .int 0, .int 0, .ref (b 38), .int o_latestSteps, .int 0, .ref (b 39), .ref (b 40), .ref (b 41), .ref (b 42), .int 0])), (b 1, .inl (cy 0, 8, .inl (fun _ => 0)))]) sz)) 0 0 (va_A ([(b 0, .inr (12, [.int o_thrown, .int o_status, .ref (b 1), .ref (b 2), .ref (b 3), .ref (b 4), .int o_nUndo, .ref (b 5), .ref (b 6), .int o_taped, .int o_spot, .int o_limit, .int o_fault, .int o_bad, .ref (b 7), .ref (b 20), .int 0, .ref (b 21), .ref (b 22), .int 0, .int 0, .ref (b 23), .int 0, .int 0, .int 0, .int 0, .ref (b 24), .ref (b 25), .ref (b 26), .int 0, .ref (b 27), .int 0, .ref (b 28), .ref (b 29), .ref (b 30), .ref (b 31), .ref (b 32), .ref (b 33), .ref (b 34), .int 0, .int 0, .int 0, .int 0, .int 0, .int 0, .ref (b 35), .ref (b 36), .ref (b 37), .int 0, .int 0, .int 0, .ref (b 38), .int o_latestSteps, .int 0, .ref (b 39), .ref (b 40), .ref (b 41), .ref (b 42), .int 0])), (b 1, .inl (cy 0, 8, .inl (fun _ => 0)))]) sz) := by
  refine Met.ofW (cc := cX12_refuse) (maxL := 2) (ret := (some .int)) (by decide) rfl ?_
  intro p e s m args below meth c s₁ B hml hv
  obtain ⟨rfl, hsz, hP, hC, hD0⟩ := hv
  have hK := hC.1
  have hx := B.exec
  have hb := B.bytes
  have hr := B.returns
  have hts := atoms_spec (ws := v_X12_refuse) B.pre
  have hown : s.vm.findClass RX12 = some m.cls := findClass_of_methodNamed B.named
  have hlocks := B.notSynchronized
  subst hsz
  have hD := hD0.self (sz := s.heap.size)
  generalize hAe : va_A ([(b 0, .inr (12, [.int o_thrown, .int o_status, .ref (b 1), .ref (b 2), .ref (b 3), .ref (b 4), .int o_nUndo, .ref (b 5), .ref (b 6), .int o_taped, .int o_spot, .int o_limit, .int o_fault, .int o_bad, .ref (b 7), .ref (b 20), .int 0, .ref (b 21), .ref (b 22), .int 0, .int 0, .ref (b 23), .int 0, .int 0, .int 0, .int 0, .ref (b 24), .ref (b 25), .ref (b 26), .int 0, .ref (b 27), .int 0, .ref (b 28), .ref (b 29), .ref (b 30), .ref (b 31), .ref (b 32), .ref (b 33), .ref (b 34), .int 0, .int 0, .int 0, .int 0, .int 0, .int 0, .ref (b 35), .ref (b 36), .ref (b 37), .int 0, .int 0, .int 0, .ref (b 38), .int o_latestSteps, .int 0, .ref (b 39), .ref (b 40), .ref (b 41), .ref (b 42), .int 0])), (b 1, .inl (cy 0, 8, .inl (fun _ => 0)))]) s.heap.size = A at hD ⊢
  have hA : ∀ q : Nat, s.heap.size ≤ q → A q := fun q h => by rw [← hAe]; exact Or.inr h
  have hS : va_S A s.heap s.heap [] := va_S.rf
  have hl := lv_entry ([.ref (b 0), .int (-4)]) (n := 2) (Nat.le_of_ble_eq_true rfl)
  rw [lg_entry_eq]
  generalize (lg_sl ([.ref (b 0), .int (-4)]) ++ List.replicate (2 - (lg_sl ([.ref (b 0), .int (-4)])).length) Slot.unset).toArray = ls at hl ⊢
  have hl : lv_has ls 2 [(0, .ref (b 0)), (1, .int (-4))] := hl
  refine lv_aload_n hx hb dX12_refuse_0 rfl (lv_at hl 0 rfl) ?_
  refine lv_iload_n hx hb dX12_refuse_1 rfl (lv_at hl 1 rfl) ?_
  refine va_put (D := (dC, dI)) (ci := 12) (v := .int (-4)) (ty := .int) (C := RX12) (T := TX12) (N := 59) hx hb hts i_X12_refuse_X12 tyX12 tyX12_ok nmX12 hown hK hP hD hS 0 rfl rfl 1 (by decide) (hts _ m_X12_refuse_0) (fun _ h9 => h9) rfl (by decide +kernel) rfl rfl (Nat.le_of_ble_eq_true rfl) dX12_refuse_2 (fun H locs hP hD hS => ?_)
  refine lv_aload_n hx hb dX12_refuse_5 rfl (lv_at hl 0 rfl) ?_
  refine va_get (D := (dC, dI)) (ci := 12) (v := .ref (b 1)) (C := RX12) (T := TX12) (N := 59) hx hb hts i_X12_refuse_X12 hown hK hP 0 rfl rfl 2 (by decide) (hts _ m_X12_refuse_1) (fun _ h9 => h9) rfl dX12_refuse_6 ?_
  refine lv_iload_n hx hb dX12_refuse_9 rfl (lv_at hl 1 rfl) ?_
  refine lv_ineg hx hb dX12_refuse_10 ?_
  refine tk_i 4 (by decide) ?_
  refine lv_dup2_11 hx hb dX12_refuse_11 rfl rfl ?_
  refine va_iald hx hb hK hP 1 0 rfl rfl (show ¬ ((4 : Int32) < 0 ∨ 8 ≤ Int32.toNatClampNeg 4) by decide) dX12_refuse_12 ?_
  refine tk_i 0 (by rfl) ?_
  refine lv_iconst (v := 1) hx hb dX12_refuse_13 (by decide) ?_
  refine lv_iadd hx hb dX12_refuse_14 ?_
  refine tk_i 1 (by decide) ?_
  refine va_iast hx hb hK hP hD hS 1 0 rfl rfl (show ¬ ((4 : Int32) < 0 ∨ 8 ≤ Int32.toNatClampNeg 4) by decide) dX12_refuse_15 (fun H locs hP hD hS => ?_)
  refine lv_iload_n hx hb dX12_refuse_16 rfl (lv_at hl 1 rfl) ?_
  exact W.iret (v := (-4)) hx hb hr (fun t ht hW => ⟨⟨(-4), (), rfl, rfl, trivial⟩, hS.F ht⟩) hS.2.2 dX12_refuse_17

set_option maxHeartbeats 4000000 in
set_option maxRecDepth 100000 in
theorem c_X12_refuse_6 (l : Launch) (dC : Nat → ClassId) (dI : Nat → Nat → Nat) (cy : Nat → ClassId) (b : Nat → Nat) (sz : Nat) (o_bad o_fault o_taped o_nUndo o_spot o_limit o_latestSteps o_thrown o_status : Int32) : Met l yX12_refuse v_X12_refuse ({ frames := 0, cells := 0, slots := 0, locals := 0 }) (va_Pc [.ref (b 0), .int (-6)] (ps dC dI cy ([(b 0, .inr (12, [.int o_thrown, .int o_status, .ref (b 1), .ref (b 2), .ref (b 3), .ref (b 4), .int o_nUndo, .ref (b 5), .ref (b 6), .int o_taped, .int o_spot, .int o_limit, .int o_fault, .int o_bad, .ref (b 7), .ref (b 20), .int 0, .ref (b 21), .ref (b 22), .int 0, .int 0, .ref (b 23), .int 0, .int 0, .int 0, .int 0, .ref (b 24), .ref (b 25), .ref (b 26), .int 0, .ref (b 27), .int 0, .ref (b 28), .ref (b 29), .ref (b 30), .ref (b 31), .ref (b 32), .ref (b 33), .ref (b 34), .int 0, .int 0, .int 0, .int 0, .int 0, .int 0, .ref (b 35), .ref (b 36), .ref (b 37), .int 0, .int 0, .int 0, .ref (b 38), .int o_latestSteps, .int 0, .ref (b 39), .ref (b 40), .ref (b 41), .ref (b 42), .int 0])), (b 1, .inl (cy 0, 8, .inl (fun _ => 0)))]) sz)) (va_Qi (fun (r : Int32) (_ : Unit) => r = (-6)) (fun _ _ => True) (va_A ([(b 0, .inr (12, [.int o_thrown, .int o_status, .ref (b 1), .ref (b 2), .ref (b 3), .ref (b 4), .int o_nUndo, .ref (b 5), .ref (b 6), .int o_taped, .int o_spot, .int o_limit, .int o_fault, .int o_bad, .ref (b 7), .ref (b 20), .int 0, .ref (b 21), .ref (b 22), .int 0, .int 0, .ref (b 23), .int 0, .int 0, .int 0, .int 0, .ref (b 24), .ref (b 25), .ref (b 26), .int 0, .ref (b 27), .int 0, .ref (b 28), .ref (b 29), .ref (b 30), .ref (b 31), .ref (b 32), .ref (b 33), .ref (b 34), .int 0, .int 0, .int 0, .int 0, .int 0, .int 0, .ref (b 35), .ref (b 36), .ref (b 37), .int 0, .int 0, .int 0, .ref (b 38), .int o_latestSteps, .int 0, .ref (b 39), .ref (b 40), .ref (b 41), .ref (b 42), .int 0])), (b 1, .inl (cy 0, 8, .inl (fun _ => 0)))]) sz)) 0 0 (va_A ([(b 0, .inr (12, [.int o_thrown, .int o_status, .ref (b 1), .ref (b 2), .ref (b 3), .ref (b 4), .int o_nUndo, .ref (b 5), .ref (b 6), .int o_taped, .int o_spot, .int o_limit, .int o_fault, .int o_bad, .ref (b 7), .ref (b 20), .int 0, .ref (b 21), .ref (b 22), .int 0, .int 0, .ref (b 23), .int 0, .int 0, .int 0, .int 0, .ref (b 24), .ref (b 25), .ref (b 26), .int 0, .ref (b 27), .int 0, .ref (b 28), .ref (b 29), .ref (b 30), .ref (b 31), .ref (b 32), .ref (b 33), .ref (b 34), .int 0, .int 0, .int 0, .int 0, .int 0, .int 0, .ref (b 35), .ref (b 36), .ref (b 37), .int 0, .int 0, .int 0, .ref (b 38), .int o_latestSteps, .int 0, .ref (b 39), .ref (b 40), .ref (b 41), .ref (b 42), .int 0])), (b 1, .inl (cy 0, 8, .inl (fun _ => 0)))]) sz) := by
  refine Met.ofW (cc := cX12_refuse) (maxL := 2) (ret := (some .int)) (by decide) rfl ?_
  intro p e s m args below meth c s₁ B hml hv
  obtain ⟨rfl, hsz, hP, hC, hD0⟩ := hv
  have hK := hC.1
  have hx := B.exec
  have hb := B.bytes
  have hr := B.returns
  have hts := atoms_spec (ws := v_X12_refuse) B.pre
  have hown : s.vm.findClass RX12 = some m.cls := findClass_of_methodNamed B.named
  have hlocks := B.notSynchronized
  subst hsz
  have hD := hD0.self (sz := s.heap.size)
  generalize hAe : va_A ([(b 0, .inr (12, [.int o_thrown, .int o_status, .ref (b 1), .ref (b 2), .ref (b 3), .ref (b 4), .int o_nUndo, .ref (b 5), .ref (b 6), .int o_taped, .int o_spot, .int o_limit, .int o_fault, .int o_bad, .ref (b 7), .ref (b 20), .int 0, .ref (b 21), .ref (b 22), .int 0, .int 0, .ref (b 23), .int 0, .int 0, .int 0, .int 0, .ref (b 24), .ref (b 25), .ref (b 26), .int 0, .ref (b 27), .int 0, .ref (b 28), .ref (b 29), .ref (b 30), .ref (b 31), .ref (b 32), .ref (b 33), .ref (b 34), .int 0, .int 0, .int 0, .int 0, .int 0, .int 0, .ref (b 35), .ref (b 36), .ref (b 37), .int 0, .int 0, .int 0, .ref (b 38), .int o_latestSteps, .int 0, .ref (b 39), .ref (b 40), .ref (b 41), .ref (b 42), .int 0])), (b 1, .inl (cy 0, 8, .inl (fun _ => 0)))]) s.heap.size = A at hD ⊢
  have hA : ∀ q : Nat, s.heap.size ≤ q → A q := fun q h => by rw [← hAe]; exact Or.inr h
  have hS : va_S A s.heap s.heap [] := va_S.rf
  have hl := lv_entry ([.ref (b 0), .int (-6)]) (n := 2) (Nat.le_of_ble_eq_true rfl)
  rw [lg_entry_eq]
  generalize (lg_sl ([.ref (b 0), .int (-6)]) ++ List.replicate (2 - (lg_sl ([.ref (b 0), .int (-6)])).length) Slot.unset).toArray = ls at hl ⊢
  have hl : lv_has ls 2 [(0, .ref (b 0)), (1, .int (-6))] := hl
  refine lv_aload_n hx hb dX12_refuse_0 rfl (lv_at hl 0 rfl) ?_
  refine lv_iload_n hx hb dX12_refuse_1 rfl (lv_at hl 1 rfl) ?_
  refine va_put (D := (dC, dI)) (ci := 12) (v := .int (-6)) (ty := .int) (C := RX12) (T := TX12) (N := 59) hx hb hts i_X12_refuse_X12 tyX12 tyX12_ok nmX12 hown hK hP hD hS 0 rfl rfl 1 (by decide) (hts _ m_X12_refuse_0) (fun _ h9 => h9) rfl (by decide +kernel) rfl rfl (Nat.le_of_ble_eq_true rfl) dX12_refuse_2 (fun H locs hP hD hS => ?_)
  refine lv_aload_n hx hb dX12_refuse_5 rfl (lv_at hl 0 rfl) ?_
  refine va_get (D := (dC, dI)) (ci := 12) (v := .ref (b 1)) (C := RX12) (T := TX12) (N := 59) hx hb hts i_X12_refuse_X12 hown hK hP 0 rfl rfl 2 (by decide) (hts _ m_X12_refuse_1) (fun _ h9 => h9) rfl dX12_refuse_6 ?_
  refine lv_iload_n hx hb dX12_refuse_9 rfl (lv_at hl 1 rfl) ?_
  refine lv_ineg hx hb dX12_refuse_10 ?_
  refine tk_i 6 (by decide) ?_
  refine lv_dup2_11 hx hb dX12_refuse_11 rfl rfl ?_
  refine va_iald hx hb hK hP 1 0 rfl rfl (show ¬ ((6 : Int32) < 0 ∨ 8 ≤ Int32.toNatClampNeg 6) by decide) dX12_refuse_12 ?_
  refine tk_i 0 (by rfl) ?_
  refine lv_iconst (v := 1) hx hb dX12_refuse_13 (by decide) ?_
  refine lv_iadd hx hb dX12_refuse_14 ?_
  refine tk_i 1 (by decide) ?_
  refine va_iast hx hb hK hP hD hS 1 0 rfl rfl (show ¬ ((6 : Int32) < 0 ∨ 8 ≤ Int32.toNatClampNeg 6) by decide) dX12_refuse_15 (fun H locs hP hD hS => ?_)
  refine lv_iload_n hx hb dX12_refuse_16 rfl (lv_at hl 1 rfl) ?_
  exact W.iret (v := (-6)) hx hb hr (fun t ht hW => ⟨⟨(-6), (), rfl, rfl, trivial⟩, hS.F ht⟩) hS.2.2 dX12_refuse_17

theorem dX12_tell_0 : decode cX12_tell 0 = .ok (.aload_n 0, 1) := by decide +kernel
theorem dX12_tell_1 : decode cX12_tell 1 = .ok (.iconst 0, 1) := by decide +kernel
theorem dX12_tell_2 : decode cX12_tell 2 = .ok (.putfield 108, 3) := by decide +kernel
theorem dX12_tell_5 : decode cX12_tell 5 = .ok (.iload_n 1, 1) := by decide +kernel
theorem dX12_tell_6 : decode cX12_tell 6 = .ok (.ireturn, 1) := by decide +kernel
def v_X12_tell : List Cond := .code yX12_tell cX12_tell 2 (some .int) :: ([.fieldLink RX12 108 "RestBoardModel" "status" "I"] ++ wsX120)
theorem m_X12_tell_0 : (.fieldLink RX12 108 "RestBoardModel" "status" "I" : Cond) ∈ v_X12_tell := List.mem_of_getElem? (i := 1) (by decide +kernel)
theorem i_X12_tell_X12 : ∀ w ∈ u_ws RX12 TX12 59, w ∈ v_X12_tell := fun w h => List.mem_cons_of_mem _ (List.mem_append_right _ h)
set_option maxHeartbeats 4000000 in
set_option maxRecDepth 100000 in
theorem c_X12_tell (l : Launch) (dC : Nat → ClassId) (dI : Nat → Nat → Nat) (cy : Nat → ClassId) (b : Nat → Nat) (sz : Nat) (p0 o_bad o_fault o_taped o_nUndo o_spot o_limit o_latestSteps o_thrown o_status : Int32) : Met l yX12_tell v_X12_tell ({ frames := 0, cells := 0, slots := 0, locals := 0 }) (va_Pc [.ref (b 0), .int p0] (ps dC dI cy ([(b 0, .inr (12, [.int o_thrown, .int o_status, .ref (b 1), .ref (b 2), .ref (b 3), .ref (b 4), .int o_nUndo, .ref (b 5), .ref (b 6), .int o_taped, .int o_spot, .int o_limit, .int o_fault, .int o_bad, .ref (b 7), .ref (b 20), .int 0, .ref (b 21), .ref (b 22), .int 0, .int 0, .ref (b 23), .int 0, .int 0, .int 0, .int 0, .ref (b 24), .ref (b 25), .ref (b 26), .int 0, .ref (b 27), .int 0, .ref (b 28), .ref (b 29), .ref (b 30), .ref (b 31), .ref (b 32), .ref (b 33), .ref (b 34), .int 0, .int 0, .int 0, .int 0, .int 0, .int 0, .ref (b 35), .ref (b 36), .ref (b 37), .int 0, .int 0, .int 0, .ref (b 38), .int o_latestSteps, .int 0, .ref (b 39), .ref (b 40), .ref (b 41), .ref (b 42), .int 0]))]) sz)) (va_Qi (fun (r : Int32) (_ : Unit) => r = p0) (fun _ _ => True) (va_A ([(b 0, .inr (12, [.int o_thrown, .int o_status, .ref (b 1), .ref (b 2), .ref (b 3), .ref (b 4), .int o_nUndo, .ref (b 5), .ref (b 6), .int o_taped, .int o_spot, .int o_limit, .int o_fault, .int o_bad, .ref (b 7), .ref (b 20), .int 0, .ref (b 21), .ref (b 22), .int 0, .int 0, .ref (b 23), .int 0, .int 0, .int 0, .int 0, .ref (b 24), .ref (b 25), .ref (b 26), .int 0, .ref (b 27), .int 0, .ref (b 28), .ref (b 29), .ref (b 30), .ref (b 31), .ref (b 32), .ref (b 33), .ref (b 34), .int 0, .int 0, .int 0, .int 0, .int 0, .int 0, .ref (b 35), .ref (b 36), .ref (b 37), .int 0, .int 0, .int 0, .ref (b 38), .int o_latestSteps, .int 0, .ref (b 39), .ref (b 40), .ref (b 41), .ref (b 42), .int 0]))]) sz)) 0 0 (va_A ([(b 0, .inr (12, [.int o_thrown, .int o_status, .ref (b 1), .ref (b 2), .ref (b 3), .ref (b 4), .int o_nUndo, .ref (b 5), .ref (b 6), .int o_taped, .int o_spot, .int o_limit, .int o_fault, .int o_bad, .ref (b 7), .ref (b 20), .int 0, .ref (b 21), .ref (b 22), .int 0, .int 0, .ref (b 23), .int 0, .int 0, .int 0, .int 0, .ref (b 24), .ref (b 25), .ref (b 26), .int 0, .ref (b 27), .int 0, .ref (b 28), .ref (b 29), .ref (b 30), .ref (b 31), .ref (b 32), .ref (b 33), .ref (b 34), .int 0, .int 0, .int 0, .int 0, .int 0, .int 0, .ref (b 35), .ref (b 36), .ref (b 37), .int 0, .int 0, .int 0, .ref (b 38), .int o_latestSteps, .int 0, .ref (b 39), .ref (b 40), .ref (b 41), .ref (b 42), .int 0]))]) sz) := by
  refine Met.ofW (cc := cX12_tell) (maxL := 2) (ret := (some .int)) (by decide) rfl ?_
  intro p e s m args below meth c s₁ B hml hv
  obtain ⟨rfl, hsz, hP, hC, hD0⟩ := hv
  have hK := hC.1
  have hx := B.exec
  have hb := B.bytes
  have hr := B.returns
  have hts := atoms_spec (ws := v_X12_tell) B.pre
  have hown : s.vm.findClass RX12 = some m.cls := findClass_of_methodNamed B.named
  have hlocks := B.notSynchronized
  subst hsz
  have hD := hD0.self (sz := s.heap.size)
  generalize hAe : va_A ([(b 0, .inr (12, [.int o_thrown, .int o_status, .ref (b 1), .ref (b 2), .ref (b 3), .ref (b 4), .int o_nUndo, .ref (b 5), .ref (b 6), .int o_taped, .int o_spot, .int o_limit, .int o_fault, .int o_bad, .ref (b 7), .ref (b 20), .int 0, .ref (b 21), .ref (b 22), .int 0, .int 0, .ref (b 23), .int 0, .int 0, .int 0, .int 0, .ref (b 24), .ref (b 25), .ref (b 26), .int 0, .ref (b 27), .int 0, .ref (b 28), .ref (b 29), .ref (b 30), .ref (b 31), .ref (b 32), .ref (b 33), .ref (b 34), .int 0, .int 0, .int 0, .int 0, .int 0, .int 0, .ref (b 35), .ref (b 36), .ref (b 37), .int 0, .int 0, .int 0, .ref (b 38), .int o_latestSteps, .int 0, .ref (b 39), .ref (b 40), .ref (b 41), .ref (b 42), .int 0]))]) s.heap.size = A at hD ⊢
  have hA : ∀ q : Nat, s.heap.size ≤ q → A q := fun q h => by rw [← hAe]; exact Or.inr h
  have hS : va_S A s.heap s.heap [] := va_S.rf
  have hl := lv_entry ([.ref (b 0), .int p0]) (n := 2) (Nat.le_of_ble_eq_true rfl)
  rw [lg_entry_eq]
  generalize (lg_sl ([.ref (b 0), .int p0]) ++ List.replicate (2 - (lg_sl ([.ref (b 0), .int p0])).length) Slot.unset).toArray = ls at hl ⊢
  have hl : lv_has ls 2 [(0, .ref (b 0)), (1, .int p0)] := hl
  refine lv_aload_n hx hb dX12_tell_0 rfl (lv_at hl 0 rfl) ?_
  refine lv_iconst (v := 0) hx hb dX12_tell_1 (by decide) ?_
  refine va_put (D := (dC, dI)) (ci := 12) (v := .int 0) (ty := .int) (C := RX12) (T := TX12) (N := 59) hx hb hts i_X12_tell_X12 tyX12 tyX12_ok nmX12 hown hK hP hD hS 0 rfl rfl 1 (by decide) (hts _ m_X12_tell_0) (fun _ h9 => h9) rfl (by decide +kernel) rfl rfl (Nat.le_of_ble_eq_true rfl) dX12_tell_2 (fun H locs hP hD hS => ?_)
  refine lv_iload_n hx hb dX12_tell_5 rfl (lv_at hl 1 rfl) ?_
  exact W.iret (v := p0) hx hb hr (fun t ht hW => ⟨⟨p0, (), rfl, rfl, trivial⟩, hS.F ht⟩) hS.2.2 dX12_tell_6

theorem dX12_fault_0 : decode cX12_fault 0 = .ok (.aload_n 0, 1) := by decide +kernel
theorem dX12_fault_1 : decode cX12_fault 1 = .ok (.iconst 0, 1) := by decide +kernel
theorem dX12_fault_2 : decode cX12_fault 2 = .ok (.putfield 105, 3) := by decide +kernel
theorem dX12_fault_5 : decode cX12_fault 5 = .ok (.aload_n 0, 1) := by decide +kernel
theorem dX12_fault_6 : decode cX12_fault 6 = .ok (.getfield 28, 3) := by decide +kernel
theorem dX12_fault_9 : decode cX12_fault 9 = .ok (.ireturn, 1) := by decide +kernel
def v_X12_fault : List Cond := .code yX12_fault cX12_fault 1 (some .int) :: ([.fieldLink RX12 105 "RestBoardModel" "thrown" "I", .fieldLink RX12 28 "RestBoardModel" "fault" "I"] ++ wsX120)
theorem m_X12_fault_0 : (.fieldLink RX12 105 "RestBoardModel" "thrown" "I" : Cond) ∈ v_X12_fault := List.mem_of_getElem? (i := 1) (by decide +kernel)
theorem m_X12_fault_1 : (.fieldLink RX12 28 "RestBoardModel" "fault" "I" : Cond) ∈ v_X12_fault := List.mem_of_getElem? (i := 2) (by decide +kernel)
theorem i_X12_fault_X12 : ∀ w ∈ u_ws RX12 TX12 59, w ∈ v_X12_fault := fun w h => List.mem_cons_of_mem _ (List.mem_append_right _ h)
set_option maxHeartbeats 4000000 in
set_option maxRecDepth 100000 in
theorem c_X12_fault (l : Launch) (dC : Nat → ClassId) (dI : Nat → Nat → Nat) (cy : Nat → ClassId) (b : Nat → Nat) (sz : Nat) : Met l yX12_fault v_X12_fault ({ frames := 0, cells := 0, slots := 0, locals := 0 }) (va_Pc [.ref (b 0)] (ps dC dI cy (mw b cy) sz)) (va_Qi (fun (r : Int32) (_ : Unit) => r = (-1)) (fun _ _ => True) (va_A (mw b cy) sz)) 0 0 (va_A (mw b cy) sz) := by
  refine Met.ofW (cc := cX12_fault) (maxL := 1) (ret := (some .int)) (by decide) rfl ?_
  intro p e s m args below meth c s₁ B hml hv
  obtain ⟨rfl, hsz, hP, hC, hD0⟩ := hv
  have hK := hC.1
  have hx := B.exec
  have hb := B.bytes
  have hr := B.returns
  have hts := atoms_spec (ws := v_X12_fault) B.pre
  have hown : s.vm.findClass RX12 = some m.cls := findClass_of_methodNamed B.named
  have hlocks := B.notSynchronized
  subst hsz
  have hD := hD0.self (sz := s.heap.size)
  generalize hAe : va_A (mw b cy) s.heap.size = A at hD ⊢
  have hA : ∀ q : Nat, s.heap.size ≤ q → A q := fun q h => by rw [← hAe]; exact Or.inr h
  have hS : va_S A s.heap s.heap [] := va_S.rf
  have hl := lv_entry ([.ref (b 0)]) (n := 1) (Nat.le_of_ble_eq_true rfl)
  rw [lg_entry_eq]
  generalize (lg_sl ([.ref (b 0)]) ++ List.replicate (1 - (lg_sl ([.ref (b 0)])).length) Slot.unset).toArray = ls at hl ⊢
  have hl : lv_has ls 1 [(0, .ref (b 0))] := hl
  refine lv_aload_n hx hb dX12_fault_0 rfl (lv_at hl 0 rfl) ?_
  refine lv_iconst (v := 0) hx hb dX12_fault_1 (by decide) ?_
  refine va_put (D := (dC, dI)) (ci := 12) (v := .int 0) (ty := .int) (C := RX12) (T := TX12) (N := 59) hx hb hts i_X12_fault_X12 tyX12 tyX12_ok nmX12 hown hK hP hD hS 0 rfl rfl 0 (by decide) (hts _ m_X12_fault_0) (fun _ h9 => h9) rfl (by decide +kernel) rfl rfl (Nat.le_of_ble_eq_true rfl) dX12_fault_2 (fun H locs hP hD hS => ?_)
  have hP : va_P (dC, dI) vwCl (mw b cy) H := hP
  have hD : va_D A (mw b cy) := hD
  refine lv_aload_n hx hb dX12_fault_5 rfl (lv_at hl 0 rfl) ?_
  refine va_get (D := (dC, dI)) (ci := 12) (v := .int (-1)) (C := RX12) (T := TX12) (N := 59) hx hb hts i_X12_fault_X12 hown hK hP 0 rfl rfl 12 (by decide) (hts _ m_X12_fault_1) (fun _ h9 => h9) rfl dX12_fault_6 ?_
  exact W.iret (v := (-1)) hx hb hr (fun t ht hW => ⟨⟨(-1), (), rfl, rfl, trivial⟩, hS.F ht⟩) hS.2.2 dX12_fault_9

theorem dX12_status_0 : decode cX12_status 0 = .ok (.aload_n 0, 1) := by decide +kernel
theorem dX12_status_1 : decode cX12_status 1 = .ok (.iconst 0, 1) := by decide +kernel
theorem dX12_status_2 : decode cX12_status 2 = .ok (.putfield 105, 3) := by decide +kernel
theorem dX12_status_5 : decode cX12_status 5 = .ok (.aload_n 0, 1) := by decide +kernel
theorem dX12_status_6 : decode cX12_status 6 = .ok (.getfield 108, 3) := by decide +kernel
theorem dX12_status_9 : decode cX12_status 9 = .ok (.ireturn, 1) := by decide +kernel
def v_X12_status : List Cond := .code yX12_status cX12_status 1 (some .int) :: ([.fieldLink RX12 105 "RestBoardModel" "thrown" "I", .fieldLink RX12 108 "RestBoardModel" "status" "I"] ++ wsX120)
theorem m_X12_status_0 : (.fieldLink RX12 105 "RestBoardModel" "thrown" "I" : Cond) ∈ v_X12_status := List.mem_of_getElem? (i := 1) (by decide +kernel)
theorem m_X12_status_1 : (.fieldLink RX12 108 "RestBoardModel" "status" "I" : Cond) ∈ v_X12_status := List.mem_of_getElem? (i := 2) (by decide +kernel)
theorem i_X12_status_X12 : ∀ w ∈ u_ws RX12 TX12 59, w ∈ v_X12_status := fun w h => List.mem_cons_of_mem _ (List.mem_append_right _ h)
set_option maxHeartbeats 4000000 in
set_option maxRecDepth 100000 in
theorem c_X12_status (l : Launch) (dC : Nat → ClassId) (dI : Nat → Nat → Nat) (cy : Nat → ClassId) (b : Nat → Nat) (sz : Nat) : Met l yX12_status v_X12_status ({ frames := 0, cells := 0, slots := 0, locals := 0 }) (va_Pc [.ref (b 0)] (ps dC dI cy (mw b cy) sz)) (va_Qi (fun (r : Int32) (_ : Unit) => r = 0) (fun _ _ => True) (va_A (mw b cy) sz)) 0 0 (va_A (mw b cy) sz) := by
  refine Met.ofW (cc := cX12_status) (maxL := 1) (ret := (some .int)) (by decide) rfl ?_
  intro p e s m args below meth c s₁ B hml hv
  obtain ⟨rfl, hsz, hP, hC, hD0⟩ := hv
  have hK := hC.1
  have hx := B.exec
  have hb := B.bytes
  have hr := B.returns
  have hts := atoms_spec (ws := v_X12_status) B.pre
  have hown : s.vm.findClass RX12 = some m.cls := findClass_of_methodNamed B.named
  have hlocks := B.notSynchronized
  subst hsz
  have hD := hD0.self (sz := s.heap.size)
  generalize hAe : va_A (mw b cy) s.heap.size = A at hD ⊢
  have hA : ∀ q : Nat, s.heap.size ≤ q → A q := fun q h => by rw [← hAe]; exact Or.inr h
  have hS : va_S A s.heap s.heap [] := va_S.rf
  have hl := lv_entry ([.ref (b 0)]) (n := 1) (Nat.le_of_ble_eq_true rfl)
  rw [lg_entry_eq]
  generalize (lg_sl ([.ref (b 0)]) ++ List.replicate (1 - (lg_sl ([.ref (b 0)])).length) Slot.unset).toArray = ls at hl ⊢
  have hl : lv_has ls 1 [(0, .ref (b 0))] := hl
  refine lv_aload_n hx hb dX12_status_0 rfl (lv_at hl 0 rfl) ?_
  refine lv_iconst (v := 0) hx hb dX12_status_1 (by decide) ?_
  refine va_put (D := (dC, dI)) (ci := 12) (v := .int 0) (ty := .int) (C := RX12) (T := TX12) (N := 59) hx hb hts i_X12_status_X12 tyX12 tyX12_ok nmX12 hown hK hP hD hS 0 rfl rfl 0 (by decide) (hts _ m_X12_status_0) (fun _ h9 => h9) rfl (by decide +kernel) rfl rfl (Nat.le_of_ble_eq_true rfl) dX12_status_2 (fun H locs hP hD hS => ?_)
  have hP : va_P (dC, dI) vwCl (mw b cy) H := hP
  have hD : va_D A (mw b cy) := hD
  refine lv_aload_n hx hb dX12_status_5 rfl (lv_at hl 0 rfl) ?_
  refine va_get (D := (dC, dI)) (ci := 12) (v := .int 0) (C := RX12) (T := TX12) (N := 59) hx hb hts i_X12_status_X12 hown hK hP 0 rfl rfl 1 (by decide) (hts _ m_X12_status_1) (fun _ h9 => h9) rfl dX12_status_6 ?_
  exact W.iret (v := 0) hx hb hr (fun t ht hW => ⟨⟨0, (), rfl, rfl, trivial⟩, hS.F ht⟩) hS.2.2 dX12_status_9

theorem dX12_undo_0 : decode cX12_undo 0 = .ok (.aload_n 0, 1) := by decide +kernel
theorem dX12_undo_1 : decode cX12_undo 1 = .ok (.iconst 0, 1) := by decide +kernel
theorem dX12_undo_2 : decode cX12_undo 2 = .ok (.putfield 105, 3) := by decide +kernel
theorem dX12_undo_5 : decode cX12_undo 5 = .ok (.aload_n 0, 1) := by decide +kernel
theorem dX12_undo_6 : decode cX12_undo 6 = .ok (.getfield 111, 3) := by decide +kernel
theorem dX12_undo_9 : decode cX12_undo 9 = .ok (.ifCond .ne 10, 3) := by decide +kernel
theorem dX12_undo_12 : decode cX12_undo 12 = .ok (.aload_n 0, 1) := by decide +kernel
theorem dX12_undo_13 : decode cX12_undo 13 = .ok (.bipush (-4), 2) := by decide +kernel
theorem dX12_undo_15 : decode cX12_undo 15 = .ok (.invokevirtual 118, 3) := by decide +kernel
theorem dX12_undo_18 : decode cX12_undo 18 = .ok (.ireturn, 1) := by decide +kernel
def v_X12_undo : List Cond := .code yX12_undo cX12_undo 1 (some .int) :: ([.fieldLink RX12 105 "RestBoardModel" "thrown" "I", .fieldLink RX12 111 "RestBoardModel" "nUndo" "I", .methodLink RX12 118 yX12_refuse, .instanceMethod yX12_refuse, .selects RX12 yX12_refuse yX12_refuse, .initialized RX12, .code yX12_refuse cX12_refuse 2 (some .int), .fieldLink RX12 108 "RestBoardModel" "status" "I", .fieldLink RX12 7 "RestBoardModel" "refusals" "[I"] ++ wsX120)
theorem m_X12_undo_0 : (.fieldLink RX12 105 "RestBoardModel" "thrown" "I" : Cond) ∈ v_X12_undo := List.mem_of_getElem? (i := 1) (by decide +kernel)
theorem m_X12_undo_1 : (.fieldLink RX12 111 "RestBoardModel" "nUndo" "I" : Cond) ∈ v_X12_undo := List.mem_of_getElem? (i := 2) (by decide +kernel)
theorem i_X12_undo_X12 : ∀ w ∈ u_ws RX12 TX12 59, w ∈ v_X12_undo := fun w h => List.mem_cons_of_mem _ (List.mem_append_right _ h)
set_option maxRecDepth 100000 in
theorem gg_X12_undo_X12_refuse_118 : GoodIn v_X12_undo v_X12_refuse := goodIn_r _ [7, 8, 9, 10, 11, 12, 13, 14, 15, 16, 17, 18, 19, 20, 21, 22, 23, 24, 25, 26, 27, 28, 29, 30, 31, 32, 33, 34, 35, 36, 37, 38, 39, 40, 41, 42, 43, 44, 45, 46, 47, 48, 49, 50, 51, 52, 53, 54, 55, 56, 57, 58, 59, 60, 61, 62, 63, 64, 65, 66, 67, 68] (by decide +kernel) (by decide +kernel)
set_option maxRecDepth 100000 in
theorem g_X12_undo_X12_refuse_118 : GoodIn v_X12_undo (wsV RX12 118 RX12 yX12_refuse v_X12_refuse) := goodIn_app (goodIn_r _ [3, 4, 5, 6] (by decide +kernel) (by decide +kernel)) gg_X12_undo_X12_refuse_118
set_option maxHeartbeats 4000000 in
set_option maxRecDepth 100000 in
theorem c_X12_undo (l : Launch) (dC : Nat → ClassId) (dI : Nat → Nat → Nat) (cy : Nat → ClassId) (b : Nat → Nat) (sz : Nat) : Met l yX12_undo v_X12_undo ({ frames := 1, cells := 0, slots := 0, locals := 21 }) (va_Pc [.ref (b 0)] (ps dC dI cy (mw b cy) sz)) (va_Qi (fun (r : Int32) (_ : Unit) => r = (-4)) (fun _ _ => True) (va_A (mw b cy) sz)) 0 0 (va_A (mw b cy) sz) := by
  refine Met.ofW (cc := cX12_undo) (maxL := 1) (ret := (some .int)) (by decide) rfl ?_
  intro p e s m args below meth c s₁ B hml hv
  obtain ⟨rfl, hsz, hP, hC, hD0⟩ := hv
  have hK := hC.1
  have hx := B.exec
  have hb := B.bytes
  have hr := B.returns
  have hts := atoms_spec (ws := v_X12_undo) B.pre
  have hown : s.vm.findClass RX12 = some m.cls := findClass_of_methodNamed B.named
  have hlocks := B.notSynchronized
  subst hsz
  have hD := hD0.self (sz := s.heap.size)
  generalize hAe : va_A (mw b cy) s.heap.size = A at hD ⊢
  have hA : ∀ q : Nat, s.heap.size ≤ q → A q := fun q h => by rw [← hAe]; exact Or.inr h
  have hS : va_S A s.heap s.heap [] := va_S.rf
  have hl := lv_entry ([.ref (b 0)]) (n := 1) (Nat.le_of_ble_eq_true rfl)
  rw [lg_entry_eq]
  generalize (lg_sl ([.ref (b 0)]) ++ List.replicate (1 - (lg_sl ([.ref (b 0)])).length) Slot.unset).toArray = ls at hl ⊢
  have hl : lv_has ls 1 [(0, .ref (b 0))] := hl
  refine lv_aload_n hx hb dX12_undo_0 rfl (lv_at hl 0 rfl) ?_
  refine lv_iconst (v := 0) hx hb dX12_undo_1 (by decide) ?_
  refine va_put (D := (dC, dI)) (ci := 12) (v := .int 0) (ty := .int) (C := RX12) (T := TX12) (N := 59) hx hb hts i_X12_undo_X12 tyX12 tyX12_ok nmX12 hown hK hP hD hS 0 rfl rfl 0 (by decide) (hts _ m_X12_undo_0) (fun _ h9 => h9) rfl (by decide +kernel) rfl rfl (Nat.le_of_ble_eq_true rfl) dX12_undo_2 (fun H locs hP hD hS => ?_)
  have hP : va_P (dC, dI) vwCl (mw b cy) H := hP
  have hD : va_D A (mw b cy) := hD
  refine lv_aload_n hx hb dX12_undo_5 rfl (lv_at hl 0 rfl) ?_
  refine va_get (D := (dC, dI)) (ci := 12) (v := .int 0) (C := RX12) (T := TX12) (N := 59) hx hb hts i_X12_undo_X12 hown hK hP 0 rfl rfl 6 (by decide) (hts _ m_X12_undo_1) (fun _ h9 => h9) rfl dX12_undo_6 ?_
  refine lv_if_ne (tgt := 19) hx hb dX12_undo_9 (by decide) (fun c9_ => absurd (by decide) c9_) (fun _ => ?_)
  refine lv_aload_n hx hb dX12_undo_12 rfl (lv_at hl 0 rfl) ?_
  refine lv_bipush (v := (-4)) hx hb dX12_undo_13 (by decide) ?_
  have hPc : va_P (dC, dI) vwCl ([(b 0, .inr (12, [.int 0, .int 0, .ref (b 1), .ref (b 2), .ref (b 3), .ref (b 4), .int 0, .ref (b 5), .ref (b 6), .int 0, .int 0, .int 0, .int (-1), .int 0, .ref (b 7), .ref (b 20), .int 0, .ref (b 21), .ref (b 22), .int 0, .int 0, .ref (b 23), .int 0, .int 0, .int 0, .int 0, .ref (b 24), .ref (b 25), .ref (b 26), .int 0, .ref (b 27), .int 0, .ref (b 28), .ref (b 29), .ref (b 30), .ref (b 31), .ref (b 32), .ref (b 33), .ref (b 34), .int 0, .int 0, .int 0, .int 0, .int 0, .int 0, .ref (b 35), .ref (b 36), .ref (b 37), .int 0, .int 0, .int 0, .ref (b 38), .int 0, .int 0, .ref (b 39), .ref (b 40), .ref (b 41), .ref (b 42), .int 0])), (b 1, .inl (cy 0, 8, .inl (fun _ => 0)))]) _ := hP.sub [0, 1] rfl
  have hDc := hD.sub (ws' := [(b 0, .inr (12, [.int 0, .int 0, .ref (b 1), .ref (b 2), .ref (b 3), .ref (b 4), .int 0, .ref (b 5), .ref (b 6), .int 0, .int 0, .int 0, .int (-1), .int 0, .ref (b 7), .ref (b 20), .int 0, .ref (b 21), .ref (b 22), .int 0, .int 0, .ref (b 23), .int 0, .int 0, .int 0, .int 0, .ref (b 24), .ref (b 25), .ref (b 26), .int 0, .ref (b 27), .int 0, .ref (b 28), .ref (b 29), .ref (b 30), .ref (b 31), .ref (b 32), .ref (b 33), .ref (b 34), .int 0, .int 0, .int 0, .int 0, .int 0, .int 0, .ref (b 35), .ref (b 36), .ref (b 37), .int 0, .int 0, .int 0, .ref (b 38), .int 0, .int 0, .ref (b 39), .ref (b 40), .ref (b 41), .ref (b 42), .int 0])), (b 1, .inl (cy 0, 8, .inl (fun _ => 0)))]) [0, 1] (by decide) rfl
  have hFc := va_free (wc := [(b 0, .inr (12, [.int 0, .int 0, .ref (b 1), .ref (b 2), .ref (b 3), .ref (b 4), .int 0, .ref (b 5), .ref (b 6), .int 0, .int 0, .int 0, .int (-1), .int 0, .ref (b 7), .ref (b 20), .int 0, .ref (b 21), .ref (b 22), .int 0, .int 0, .ref (b 23), .int 0, .int 0, .int 0, .int 0, .ref (b 24), .ref (b 25), .ref (b 26), .int 0, .ref (b 27), .int 0, .ref (b 28), .ref (b 29), .ref (b 30), .ref (b 31), .ref (b 32), .ref (b 33), .ref (b 34), .int 0, .int 0, .int 0, .int 0, .int 0, .int 0, .ref (b 35), .ref (b 36), .ref (b 37), .int 0, .int 0, .int 0, .ref (b 38), .int 0, .int 0, .ref (b 39), .ref (b 40), .ref (b 41), .ref (b 42), .int 0])), (b 1, .inl (cy 0, 8, .inl (fun _ => 0)))]) hD hS hA [0, 1] rfl
  refine va_calli (va_runV (As := [.int (-4)]) (rest := []) ⟨hx, hb, hml, hown, hts⟩ (c_X12_refuse_4 l dC dI cy b _ 0 (-1) 0 0 0 0 0 0 0) (cwV 1 hts g_X12_undo_X12_refuse_118 rfl rfl rfl (by decide +kernel) ⟨Nat.le_of_ble_eq_true rfl, Nat.le_of_ble_eq_true rfl⟩) (pv_ps hC hPc hDc (ci := 12) (q0 := 0) rfl rfl) rfl rfl hl.1 rfl (lv_room (Nat.le_of_ble_eq_true rfl)) dX12_undo_15 ⟨Nat.le_of_ble_eq_true rfl, Nat.le_of_ble_eq_true rfl⟩) hS (fun q _ h => hFc q h) hFc (fun r_ u t_ H1 locs ht hvm hw hB hz1 hk1 hS => ?_)
  obtain ⟨hP, hD⟩ := va_join (wr := []) (w1 := []) hP hD [0, 1] [] rfl rfl (by decide) (by decide) hk1 hFc va_P0 va_D0
  generalize H1 = H at hP hS ⊢
  have hP : va_P (dC, dI) vwCl ([]) H := hP
  have hD : va_D A ([]) := hD
  subst hw
  exact W.iret (v := (-4)) hx hb hr (fun t ht hW => ⟨⟨(-4), (), rfl, rfl, trivial⟩, hS.F ht⟩) hS.2.2 dX12_undo_18

theorem dX12_clear_0 : decode cX12_clear 0 = .ok (.aload_n 0, 1) := by decide +kernel
theorem dX12_clear_1 : decode cX12_clear 1 = .ok (.iconst 0, 1) := by decide +kernel
theorem dX12_clear_2 : decode cX12_clear 2 = .ok (.putfield 105, 3) := by decide +kernel
theorem dX12_clear_5 : decode cX12_clear 5 = .ok (.iload_n 1, 1) := by decide +kernel
theorem dX12_clear_6 : decode cX12_clear 6 = .ok (.i2l, 1) := by decide +kernel
theorem dX12_clear_7 : decode cX12_clear 7 = .ok (.lconst 0, 1) := by decide +kernel
theorem dX12_clear_8 : decode cX12_clear 8 = .ok (.ldc2_w 460, 3) := by decide +kernel
theorem dX12_clear_11 : decode cX12_clear 11 = .ok (.invokestatic 128, 3) := by decide +kernel
theorem dX12_clear_14 : decode cX12_clear 14 = .ok (.ifCond .ne 9, 3) := by decide +kernel
theorem dX12_clear_17 : decode cX12_clear 17 = .ok (.aload_n 0, 1) := by decide +kernel
theorem dX12_clear_18 : decode cX12_clear 18 = .ok (.iconst (-1), 1) := by decide +kernel
theorem dX12_clear_19 : decode cX12_clear 19 = .ok (.invokevirtual 118, 3) := by decide +kernel
theorem dX12_clear_22 : decode cX12_clear 22 = .ok (.ireturn, 1) := by decide +kernel
theorem dX12_clear_23 : decode cX12_clear 23 = .ok (.aload_n 0, 1) := by decide +kernel
theorem dX12_clear_24 : decode cX12_clear 24 = .ok (.getfield 13, 3) := by decide +kernel
theorem dX12_clear_27 : decode cX12_clear 27 = .ok (.sipush 3307, 3) := by decide +kernel
theorem dX12_clear_30 : decode cX12_clear 30 = .ok (.iaload, 1) := by decide +kernel
theorem dX12_clear_31 : decode cX12_clear 31 = .ok (.iload_n 1, 1) := by decide +kernel
theorem dX12_clear_32 : decode cX12_clear 32 = .ok (.ishr, 1) := by decide +kernel
theorem dX12_clear_33 : decode cX12_clear 33 = .ok (.iconst 1, 1) := by decide +kernel
theorem dX12_clear_34 : decode cX12_clear 34 = .ok (.iand, 1) := by decide +kernel
theorem dX12_clear_35 : decode cX12_clear 35 = .ok (.ifCond .ne 10, 3) := by decide +kernel
theorem dX12_clear_38 : decode cX12_clear 38 = .ok (.aload_n 0, 1) := by decide +kernel
theorem dX12_clear_39 : decode cX12_clear 39 = .ok (.bipush (-4), 2) := by decide +kernel
theorem dX12_clear_41 : decode cX12_clear 41 = .ok (.invokevirtual 118, 3) := by decide +kernel
theorem dX12_clear_44 : decode cX12_clear 44 = .ok (.ireturn, 1) := by decide +kernel
def v_X12_clear : List Cond := .code yX12_clear cX12_clear 2 (some .int) :: ([.fieldLink RX12 105 "RestBoardModel" "thrown" "I", .constantLong RX12 460 (7), .fieldLink RX12 13 "RestBoardModel" "row" "[I", .methodLink RX12 128 yX12_in, .static yX12_in, .initialized RX12, .code yX12_in cX12_in 6 (some .boolean), .methodLink RX12 118 yX12_refuse, .instanceMethod yX12_refuse, .selects RX12 yX12_refuse yX12_refuse, .code yX12_refuse cX12_refuse 2 (some .int), .fieldLink RX12 108 "RestBoardModel" "status" "I", .fieldLink RX12 7 "RestBoardModel" "refusals" "[I"] ++ wsX120)
theorem m_X12_clear_0 : (.fieldLink RX12 105 "RestBoardModel" "thrown" "I" : Cond) ∈ v_X12_clear := List.mem_of_getElem? (i := 1) (by decide +kernel)
theorem m_X12_clear_1 : (.constantLong RX12 460 (7) : Cond) ∈ v_X12_clear := List.mem_of_getElem? (i := 2) (by decide +kernel)
theorem m_X12_clear_2 : (.fieldLink RX12 13 "RestBoardModel" "row" "[I" : Cond) ∈ v_X12_clear := List.mem_of_getElem? (i := 3) (by decide +kernel)
theorem i_X12_clear_X12 : ∀ w ∈ u_ws RX12 TX12 59, w ∈ v_X12_clear := fun w h => List.mem_cons_of_mem _ (List.mem_append_right _ h)
set_option maxRecDepth 100000 in
theorem gg_X12_clear_X12_in_128 : GoodIn v_X12_clear v_X12_in := goodIn_r _ [7] (by decide +kernel) (by decide +kernel)
set_option maxRecDepth 100000 in
theorem g_X12_clear_X12_in_128 : GoodIn v_X12_clear (va_wsS RX12 128 yX12_in v_X12_in) := goodIn_app (goodIn_r _ [4, 5, 6] (by decide +kernel) (by decide +kernel)) gg_X12_clear_X12_in_128
set_option maxRecDepth 100000 in
theorem gg_X12_clear_X12_refuse_118 : GoodIn v_X12_clear v_X12_refuse := goodIn_r _ [11, 12, 13, 14, 15, 16, 17, 18, 19, 20, 21, 22, 23, 24, 25, 26, 27, 28, 29, 30, 31, 32, 33, 34, 35, 36, 37, 38, 39, 40, 41, 42, 43, 44, 45, 46, 47, 48, 49, 50, 51, 52, 53, 54, 55, 56, 57, 58, 59, 60, 61, 62, 63, 64, 65, 66, 67, 68, 69, 70, 71, 72] (by decide +kernel) (by decide +kernel)
set_option maxRecDepth 100000 in
theorem g_X12_clear_X12_refuse_118 : GoodIn v_X12_clear (wsV RX12 118 RX12 yX12_refuse v_X12_refuse) := goodIn_app (goodIn_r _ [8, 9, 10, 6] (by decide +kernel) (by decide +kernel)) gg_X12_clear_X12_refuse_118
set_option maxHeartbeats 4000000 in
set_option maxRecDepth 100000 in
theorem c_X12_clear (l : Launch) (dC : Nat → ClassId) (dI : Nat → Nat → Nat) (cy : Nat → ClassId) (b : Nat → Nat) (sz : Nat) (p0 : Int32) : Met l yX12_clear v_X12_clear ({ frames := 1, cells := 0, slots := 0, locals := 25 }) (va_Pc [.ref (b 0), .int p0] (ps dC dI cy (mw b cy) sz)) (va_Qi (fun (r : Int32) (_ : Unit) => ((p0 < 0) ∧ r = (-1)) ∨ ((¬ p0 < 0) ∧ ((7 : Int32) < p0) ∧ r = (-1)) ∨ ((¬ p0 < 0) ∧ (¬ (7 : Int32) < p0) ∧ r = (-4))) (fun _ _ => True) (va_A (mw b cy) sz)) 0 0 (va_A (mw b cy) sz) := by
  refine Met.ofW (cc := cX12_clear) (maxL := 2) (ret := (some .int)) (by decide) rfl ?_
  intro p e s m args below meth c s₁ B hml hv
  obtain ⟨rfl, hsz, hP, hC, hD0⟩ := hv
  have hK := hC.1
  have hx := B.exec
  have hb := B.bytes
  have hr := B.returns
  have hts := atoms_spec (ws := v_X12_clear) B.pre
  have hown : s.vm.findClass RX12 = some m.cls := findClass_of_methodNamed B.named
  have hlocks := B.notSynchronized
  subst hsz
  have hD := hD0.self (sz := s.heap.size)
  generalize hAe : va_A (mw b cy) s.heap.size = A at hD ⊢
  have hA : ∀ q : Nat, s.heap.size ≤ q → A q := fun q h => by rw [← hAe]; exact Or.inr h
  have hS : va_S A s.heap s.heap [] := va_S.rf
  have hl := lv_entry ([.ref (b 0), .int p0]) (n := 2) (Nat.le_of_ble_eq_true rfl)
  rw [lg_entry_eq]
  generalize (lg_sl ([.ref (b 0), .int p0]) ++ List.replicate (2 - (lg_sl ([.ref (b 0), .int p0])).length) Slot.unset).toArray = ls at hl ⊢
  have hl : lv_has ls 2 [(0, .ref (b 0)), (1, .int p0)] := hl
  refine lv_aload_n hx hb dX12_clear_0 rfl (lv_at hl 0 rfl) ?_
  refine lv_iconst (v := 0) hx hb dX12_clear_1 (by decide) ?_
  refine va_put (D := (dC, dI)) (ci := 12) (v := .int 0) (ty := .int) (C := RX12) (T := TX12) (N := 59) hx hb hts i_X12_clear_X12 tyX12 tyX12_ok nmX12 hown hK hP hD hS 0 rfl rfl 0 (by decide) (hts _ m_X12_clear_0) (fun _ h9 => h9) rfl (by decide +kernel) rfl rfl (Nat.le_of_ble_eq_true rfl) dX12_clear_2 (fun H locs hP hD hS => ?_)
  have hP : va_P (dC, dI) vwCl (mw b cy) H := hP
  have hD : va_D A (mw b cy) := hD
  refine lv_iload_n hx hb dX12_clear_5 rfl (lv_at hl 1 rfl) ?_
  refine lv_i2l (v := Int32.toInt64 p0) hx hb dX12_clear_6 rfl ?_
  refine lv_lconst (v := 0) hx hb dX12_clear_7 (by decide) ?_
  refine tk_l (Int32.toInt64 0) (by decide) ?_
  refine lv_ldc2 (v := 7) hx hb hown (hts _ m_X12_clear_1) dX12_clear_8 ?_
  refine tk_l (Int32.toInt64 7) (by decide) ?_
  refine tk_pi (va_runS (As := [.long (Int32.toInt64 p0), .long (Int32.toInt64 0), .long (Int32.toInt64 7)]) (rest := []) ⟨hx, hb, hml, hown, hts⟩ (c_X12_in l dC dI cy  p0 0 7) (va_cwS 3 hts g_X12_clear_X12_in_128 rfl rfl rfl (by decide +kernel) ⟨Nat.le_of_ble_eq_true rfl, Nat.le_of_ble_eq_true rfl⟩) (pS_pp hC va_P0) rfl rfl hl.1 rfl (lv_room (Nat.le_of_ble_eq_true rfl)) dX12_clear_11 ⟨Nat.le_of_ble_eq_true rfl, Nat.le_of_ble_eq_true rfl⟩) hP hS (fun r_ H locs hw hP hS => ?_)
  rcases hw with ⟨c1_, rfl⟩ | ⟨c2_, c3_, rfl⟩ | ⟨c4_, c5_, rfl⟩
  · skip
    refine lv_if_ne (tgt := 23) hx hb dX12_clear_14 (by decide) (fun c9_ => absurd (by decide) c9_) (fun _ => ?_)
    refine lv_aload_n hx hb dX12_clear_17 rfl (lv_at hl 0 rfl) ?_
    refine lv_iconst (v := (-1)) hx hb dX12_clear_18 (by decide) ?_
    have hPc : va_P (dC, dI) vwCl ([(b 0, .inr (12, [.int 0, .int 0, .ref (b 1), .ref (b 2), .ref (b 3), .ref (b 4), .int 0, .ref (b 5), .ref (b 6), .int 0, .int 0, .int 0, .int (-1), .int 0, .ref (b 7), .ref (b 20), .int 0, .ref (b 21), .ref (b 22), .int 0, .int 0, .ref (b 23), .int 0, .int 0, .int 0, .int 0, .ref (b 24), .ref (b 25), .ref (b 26), .int 0, .ref (b 27), .int 0, .ref (b 28), .ref (b 29), .ref (b 30), .ref (b 31), .ref (b 32), .ref (b 33), .ref (b 34), .int 0, .int 0, .int 0, .int 0, .int 0, .int 0, .ref (b 35), .ref (b 36), .ref (b 37), .int 0, .int 0, .int 0, .ref (b 38), .int 0, .int 0, .ref (b 39), .ref (b 40), .ref (b 41), .ref (b 42), .int 0])), (b 1, .inl (cy 0, 8, .inl (fun _ => 0)))]) _ := hP.sub [0, 1] rfl
    have hDc := hD.sub (ws' := [(b 0, .inr (12, [.int 0, .int 0, .ref (b 1), .ref (b 2), .ref (b 3), .ref (b 4), .int 0, .ref (b 5), .ref (b 6), .int 0, .int 0, .int 0, .int (-1), .int 0, .ref (b 7), .ref (b 20), .int 0, .ref (b 21), .ref (b 22), .int 0, .int 0, .ref (b 23), .int 0, .int 0, .int 0, .int 0, .ref (b 24), .ref (b 25), .ref (b 26), .int 0, .ref (b 27), .int 0, .ref (b 28), .ref (b 29), .ref (b 30), .ref (b 31), .ref (b 32), .ref (b 33), .ref (b 34), .int 0, .int 0, .int 0, .int 0, .int 0, .int 0, .ref (b 35), .ref (b 36), .ref (b 37), .int 0, .int 0, .int 0, .ref (b 38), .int 0, .int 0, .ref (b 39), .ref (b 40), .ref (b 41), .ref (b 42), .int 0])), (b 1, .inl (cy 0, 8, .inl (fun _ => 0)))]) [0, 1] (by decide) rfl
    have hFc := va_free (wc := [(b 0, .inr (12, [.int 0, .int 0, .ref (b 1), .ref (b 2), .ref (b 3), .ref (b 4), .int 0, .ref (b 5), .ref (b 6), .int 0, .int 0, .int 0, .int (-1), .int 0, .ref (b 7), .ref (b 20), .int 0, .ref (b 21), .ref (b 22), .int 0, .int 0, .ref (b 23), .int 0, .int 0, .int 0, .int 0, .ref (b 24), .ref (b 25), .ref (b 26), .int 0, .ref (b 27), .int 0, .ref (b 28), .ref (b 29), .ref (b 30), .ref (b 31), .ref (b 32), .ref (b 33), .ref (b 34), .int 0, .int 0, .int 0, .int 0, .int 0, .int 0, .ref (b 35), .ref (b 36), .ref (b 37), .int 0, .int 0, .int 0, .ref (b 38), .int 0, .int 0, .ref (b 39), .ref (b 40), .ref (b 41), .ref (b 42), .int 0])), (b 1, .inl (cy 0, 8, .inl (fun _ => 0)))]) hD hS hA [0, 1] rfl
    refine va_calli (va_runV (As := [.int (-1)]) (rest := []) ⟨hx, hb, hml, hown, hts⟩ (c_X12_refuse_1 l dC dI cy b _ 0 (-1) 0 0 0 0 0 0 0) (cwV 1 hts g_X12_clear_X12_refuse_118 rfl rfl rfl (by decide +kernel) ⟨Nat.le_of_ble_eq_true rfl, Nat.le_of_ble_eq_true rfl⟩) (pv_ps hC hPc hDc (ci := 12) (q0 := 0) rfl rfl) rfl rfl hl.1 rfl (lv_room (Nat.le_of_ble_eq_true rfl)) dX12_clear_19 ⟨Nat.le_of_ble_eq_true rfl, Nat.le_of_ble_eq_true rfl⟩) hS (fun q _ h => hFc q h) hFc (fun r_ u t_ H1 locs ht hvm hw hB hz1 hk1 hS => ?_)
    obtain ⟨hP, hD⟩ := va_join (wr := []) (w1 := []) hP hD [0, 1] [] rfl rfl (by decide) (by decide) hk1 hFc va_P0 va_D0
    generalize H1 = H at hP hS ⊢
    have hP : va_P (dC, dI) vwCl ([]) H := hP
    have hD : va_D A ([]) := hD
    subst hw
    exact W.iret (v := (-1)) hx hb hr (fun t ht hW => ⟨⟨(-1), (), rfl, Or.inl (⟨c1_, rfl⟩), trivial⟩, hS.F ht⟩) hS.2.2 dX12_clear_22
  · skip
    refine lv_if_ne (tgt := 23) hx hb dX12_clear_14 (by decide) (fun c9_ => absurd (by decide) c9_) (fun _ => ?_)
    refine lv_aload_n hx hb dX12_clear_17 rfl (lv_at hl 0 rfl) ?_
    refine lv_iconst (v := (-1)) hx hb dX12_clear_18 (by decide) ?_
    have hPc : va_P (dC, dI) vwCl ([(b 0, .inr (12, [.int 0, .int 0, .ref (b 1), .ref (b 2), .ref (b 3), .ref (b 4), .int 0, .ref (b 5), .ref (b 6), .int 0, .int 0, .int 0, .int (-1), .int 0, .ref (b 7), .ref (b 20), .int 0, .ref (b 21), .ref (b 22), .int 0, .int 0, .ref (b 23), .int 0, .int 0, .int 0, .int 0, .ref (b 24), .ref (b 25), .ref (b 26), .int 0, .ref (b 27), .int 0, .ref (b 28), .ref (b 29), .ref (b 30), .ref (b 31), .ref (b 32), .ref (b 33), .ref (b 34), .int 0, .int 0, .int 0, .int 0, .int 0, .int 0, .ref (b 35), .ref (b 36), .ref (b 37), .int 0, .int 0, .int 0, .ref (b 38), .int 0, .int 0, .ref (b 39), .ref (b 40), .ref (b 41), .ref (b 42), .int 0])), (b 1, .inl (cy 0, 8, .inl (fun _ => 0)))]) _ := hP.sub [0, 1] rfl
    have hDc := hD.sub (ws' := [(b 0, .inr (12, [.int 0, .int 0, .ref (b 1), .ref (b 2), .ref (b 3), .ref (b 4), .int 0, .ref (b 5), .ref (b 6), .int 0, .int 0, .int 0, .int (-1), .int 0, .ref (b 7), .ref (b 20), .int 0, .ref (b 21), .ref (b 22), .int 0, .int 0, .ref (b 23), .int 0, .int 0, .int 0, .int 0, .ref (b 24), .ref (b 25), .ref (b 26), .int 0, .ref (b 27), .int 0, .ref (b 28), .ref (b 29), .ref (b 30), .ref (b 31), .ref (b 32), .ref (b 33), .ref (b 34), .int 0, .int 0, .int 0, .int 0, .int 0, .int 0, .ref (b 35), .ref (b 36), .ref (b 37), .int 0, .int 0, .int 0, .ref (b 38), .int 0, .int 0, .ref (b 39), .ref (b 40), .ref (b 41), .ref (b 42), .int 0])), (b 1, .inl (cy 0, 8, .inl (fun _ => 0)))]) [0, 1] (by decide) rfl
    have hFc := va_free (wc := [(b 0, .inr (12, [.int 0, .int 0, .ref (b 1), .ref (b 2), .ref (b 3), .ref (b 4), .int 0, .ref (b 5), .ref (b 6), .int 0, .int 0, .int 0, .int (-1), .int 0, .ref (b 7), .ref (b 20), .int 0, .ref (b 21), .ref (b 22), .int 0, .int 0, .ref (b 23), .int 0, .int 0, .int 0, .int 0, .ref (b 24), .ref (b 25), .ref (b 26), .int 0, .ref (b 27), .int 0, .ref (b 28), .ref (b 29), .ref (b 30), .ref (b 31), .ref (b 32), .ref (b 33), .ref (b 34), .int 0, .int 0, .int 0, .int 0, .int 0, .int 0, .ref (b 35), .ref (b 36), .ref (b 37), .int 0, .int 0, .int 0, .ref (b 38), .int 0, .int 0, .ref (b 39), .ref (b 40), .ref (b 41), .ref (b 42), .int 0])), (b 1, .inl (cy 0, 8, .inl (fun _ => 0)))]) hD hS hA [0, 1] rfl
    refine va_calli (va_runV (As := [.int (-1)]) (rest := []) ⟨hx, hb, hml, hown, hts⟩ (c_X12_refuse_1 l dC dI cy b _ 0 (-1) 0 0 0 0 0 0 0) (cwV 1 hts g_X12_clear_X12_refuse_118 rfl rfl rfl (by decide +kernel) ⟨Nat.le_of_ble_eq_true rfl, Nat.le_of_ble_eq_true rfl⟩) (pv_ps hC hPc hDc (ci := 12) (q0 := 0) rfl rfl) rfl rfl hl.1 rfl (lv_room (Nat.le_of_ble_eq_true rfl)) dX12_clear_19 ⟨Nat.le_of_ble_eq_true rfl, Nat.le_of_ble_eq_true rfl⟩) hS (fun q _ h => hFc q h) hFc (fun r_ u t_ H1 locs ht hvm hw hB hz1 hk1 hS => ?_)
    obtain ⟨hP, hD⟩ := va_join (wr := []) (w1 := []) hP hD [0, 1] [] rfl rfl (by decide) (by decide) hk1 hFc va_P0 va_D0
    generalize H1 = H at hP hS ⊢
    have hP : va_P (dC, dI) vwCl ([]) H := hP
    have hD : va_D A ([]) := hD
    subst hw
    exact W.iret (v := (-1)) hx hb hr (fun t ht hW => ⟨⟨(-1), (), rfl, Or.inr (Or.inl (⟨c2_, c3_, rfl⟩)), trivial⟩, hS.F ht⟩) hS.2.2 dX12_clear_22
  · skip
    refine lv_if_ne (tgt := 23) hx hb dX12_clear_14 (by decide) (fun _ => ?_) (fun c9_ => absurd c9_ (by decide))
    refine lv_aload_n hx hb dX12_clear_23 rfl (lv_at hl 0 rfl) ?_
    refine va_get (D := (dC, dI)) (ci := 12) (v := .ref (b 2)) (C := RX12) (T := TX12) (N := 59) hx hb hts i_X12_clear_X12 hown hK hP 0 rfl rfl 3 (by decide) (hts _ m_X12_clear_2) (fun _ h9 => h9) rfl dX12_clear_24 ?_
    refine lv_sipush (v := 3307) hx hb dX12_clear_27 (by decide) ?_
    refine va_iald hx hb hK hP 2 0 rfl rfl (show ¬ ((3307 : Int32) < 0 ∨ 3408 ≤ Int32.toNatClampNeg 3307) by decide) dX12_clear_30 ?_
    refine tk_i 0 (by rfl) ?_
    refine lv_iload_n hx hb dX12_clear_31 rfl (lv_at hl 1 rfl) ?_
    refine lv_ishr hx hb dX12_clear_32 ?_
    refine tk_i 0 (sh_0 _) ?_
    refine lv_iconst (v := 1) hx hb dX12_clear_33 (by decide) ?_
    refine lv_iand hx hb dX12_clear_34 ?_
    refine tk_i 0 (by decide) ?_
    refine lv_if_ne (tgt := 45) hx hb dX12_clear_35 (by decide) (fun c9_ => absurd (by decide) c9_) (fun _ => ?_)
    refine lv_aload_n hx hb dX12_clear_38 rfl (lv_at hl 0 rfl) ?_
    refine lv_bipush (v := (-4)) hx hb dX12_clear_39 (by decide) ?_
    have hPc : va_P (dC, dI) vwCl ([(b 0, .inr (12, [.int 0, .int 0, .ref (b 1), .ref (b 2), .ref (b 3), .ref (b 4), .int 0, .ref (b 5), .ref (b 6), .int 0, .int 0, .int 0, .int (-1), .int 0, .ref (b 7), .ref (b 20), .int 0, .ref (b 21), .ref (b 22), .int 0, .int 0, .ref (b 23), .int 0, .int 0, .int 0, .int 0, .ref (b 24), .ref (b 25), .ref (b 26), .int 0, .ref (b 27), .int 0, .ref (b 28), .ref (b 29), .ref (b 30), .ref (b 31), .ref (b 32), .ref (b 33), .ref (b 34), .int 0, .int 0, .int 0, .int 0, .int 0, .int 0, .ref (b 35), .ref (b 36), .ref (b 37), .int 0, .int 0, .int 0, .ref (b 38), .int 0, .int 0, .ref (b 39), .ref (b 40), .ref (b 41), .ref (b 42), .int 0])), (b 1, .inl (cy 0, 8, .inl (fun _ => 0)))]) _ := hP.sub [0, 1] rfl
    have hDc := hD.sub (ws' := [(b 0, .inr (12, [.int 0, .int 0, .ref (b 1), .ref (b 2), .ref (b 3), .ref (b 4), .int 0, .ref (b 5), .ref (b 6), .int 0, .int 0, .int 0, .int (-1), .int 0, .ref (b 7), .ref (b 20), .int 0, .ref (b 21), .ref (b 22), .int 0, .int 0, .ref (b 23), .int 0, .int 0, .int 0, .int 0, .ref (b 24), .ref (b 25), .ref (b 26), .int 0, .ref (b 27), .int 0, .ref (b 28), .ref (b 29), .ref (b 30), .ref (b 31), .ref (b 32), .ref (b 33), .ref (b 34), .int 0, .int 0, .int 0, .int 0, .int 0, .int 0, .ref (b 35), .ref (b 36), .ref (b 37), .int 0, .int 0, .int 0, .ref (b 38), .int 0, .int 0, .ref (b 39), .ref (b 40), .ref (b 41), .ref (b 42), .int 0])), (b 1, .inl (cy 0, 8, .inl (fun _ => 0)))]) [0, 1] (by decide) rfl
    have hFc := va_free (wc := [(b 0, .inr (12, [.int 0, .int 0, .ref (b 1), .ref (b 2), .ref (b 3), .ref (b 4), .int 0, .ref (b 5), .ref (b 6), .int 0, .int 0, .int 0, .int (-1), .int 0, .ref (b 7), .ref (b 20), .int 0, .ref (b 21), .ref (b 22), .int 0, .int 0, .ref (b 23), .int 0, .int 0, .int 0, .int 0, .ref (b 24), .ref (b 25), .ref (b 26), .int 0, .ref (b 27), .int 0, .ref (b 28), .ref (b 29), .ref (b 30), .ref (b 31), .ref (b 32), .ref (b 33), .ref (b 34), .int 0, .int 0, .int 0, .int 0, .int 0, .int 0, .ref (b 35), .ref (b 36), .ref (b 37), .int 0, .int 0, .int 0, .ref (b 38), .int 0, .int 0, .ref (b 39), .ref (b 40), .ref (b 41), .ref (b 42), .int 0])), (b 1, .inl (cy 0, 8, .inl (fun _ => 0)))]) hD hS hA [0, 1] rfl
    refine va_calli (va_runV (As := [.int (-4)]) (rest := []) ⟨hx, hb, hml, hown, hts⟩ (c_X12_refuse_4 l dC dI cy b _ 0 (-1) 0 0 0 0 0 0 0) (cwV 1 hts g_X12_clear_X12_refuse_118 rfl rfl rfl (by decide +kernel) ⟨Nat.le_of_ble_eq_true rfl, Nat.le_of_ble_eq_true rfl⟩) (pv_ps hC hPc hDc (ci := 12) (q0 := 0) rfl rfl) rfl rfl hl.1 rfl (lv_room (Nat.le_of_ble_eq_true rfl)) dX12_clear_41 ⟨Nat.le_of_ble_eq_true rfl, Nat.le_of_ble_eq_true rfl⟩) hS (fun q _ h => hFc q h) hFc (fun r_ u t_ H1 locs ht hvm hw hB hz1 hk1 hS => ?_)
    obtain ⟨hP, hD⟩ := va_join (wr := []) (w1 := []) hP hD [0, 1] [] rfl rfl (by decide) (by decide) hk1 hFc va_P0 va_D0
    generalize H1 = H at hP hS ⊢
    have hP : va_P (dC, dI) vwCl ([]) H := hP
    have hD : va_D A ([]) := hD
    subst hw
    exact W.iret (v := (-4)) hx hb hr (fun t ht hW => ⟨⟨(-4), (), rfl, Or.inr (Or.inr (⟨c4_, c5_, rfl⟩)), trivial⟩, hS.F ht⟩) hS.2.2 dX12_clear_44

theorem dX12_call_0 : decode cX12_call 0 = .ok (.aload_n 0, 1) := by decide +kernel
theorem dX12_call_1 : decode cX12_call 1 = .ok (.iconst 0, 1) := by decide +kernel
theorem dX12_call_2 : decode cX12_call 2 = .ok (.putfield 105, 3) := by decide +kernel
theorem dX12_call_5 : decode cX12_call 5 = .ok (.iload_n 2, 1) := by decide +kernel
theorem dX12_call_6 : decode cX12_call 6 = .ok (.invokestatic 416, 3) := by decide +kernel
theorem dX12_call_9 : decode cX12_call 9 = .ok (.ifCond .eq 18, 3) := by decide +kernel
theorem dX12_call_12 : decode cX12_call 12 = .ok (.iload_n 3, 1) := by decide +kernel
theorem dX12_call_13 : decode cX12_call 13 = .ok (.invokestatic 416, 3) := by decide +kernel
theorem dX12_call_16 : decode cX12_call 16 = .ok (.ifCond .eq 11, 3) := by decide +kernel
theorem dX12_call_19 : decode cX12_call 19 = .ok (.iload 4, 2) := by decide +kernel
theorem dX12_call_21 : decode cX12_call 21 = .ok (.invokestatic 416, 3) := by decide +kernel
theorem dX12_call_24 : decode cX12_call 24 = .ok (.ifCond .ne 9, 3) := by decide +kernel
theorem dX12_call_27 : decode cX12_call 27 = .ok (.aload_n 0, 1) := by decide +kernel
theorem dX12_call_28 : decode cX12_call 28 = .ok (.iconst (-1), 1) := by decide +kernel
theorem dX12_call_29 : decode cX12_call 29 = .ok (.invokevirtual 118, 3) := by decide +kernel
theorem dX12_call_32 : decode cX12_call 32 = .ok (.ireturn, 1) := by decide +kernel
theorem dX12_call_33 : decode cX12_call 33 = .ok (.aload_n 0, 1) := by decide +kernel
theorem dX12_call_34 : decode cX12_call 34 = .ok (.iload_n 1, 1) := by decide +kernel
theorem dX12_call_35 : decode cX12_call 35 = .ok (.iconst 3, 1) := by decide +kernel
theorem dX12_call_36 : decode cX12_call 36 = .ok (.invokevirtual 143, 3) := by decide +kernel
theorem dX12_call_39 : decode cX12_call 39 = .ok (.ifCond .ne 10, 3) := by decide +kernel
theorem dX12_call_42 : decode cX12_call 42 = .ok (.aload_n 0, 1) := by decide +kernel
theorem dX12_call_43 : decode cX12_call 43 = .ok (.bipush (-2), 2) := by decide +kernel
theorem dX12_call_45 : decode cX12_call 45 = .ok (.invokevirtual 118, 3) := by decide +kernel
theorem dX12_call_48 : decode cX12_call 48 = .ok (.ireturn, 1) := by decide +kernel
def v_X12_call : List Cond := .code yX12_call cX12_call 5 (some .int) :: ([.fieldLink RX12 105 "RestBoardModel" "thrown" "I", .methodLink RX12 416 yX12_isValue, .static yX12_isValue, .initialized RX12, .code yX12_isValue cX12_isValue 1 (some .boolean), .constant RX12 415 (65536), .methodLink RX12 118 yX12_refuse, .instanceMethod yX12_refuse, .selects RX12 yX12_refuse yX12_refuse, .code yX12_refuse cX12_refuse 2 (some .int), .fieldLink RX12 108 "RestBoardModel" "status" "I", .fieldLink RX12 7 "RestBoardModel" "refusals" "[I", .methodLink RX12 143 yX12_isOf, .instanceMethod yX12_isOf, .selects RX12 yX12_isOf yX12_isOf, .code yX12_isOf cX12_isOf 3 (some .boolean), .methodLink RX12 132 yX12_isNode, .instanceMethod yX12_isNode, .selects RX12 yX12_isNode yX12_isNode, .code yX12_isNode cX12_isNode 2 (some .boolean), .fieldLink RX12 13 "RestBoardModel" "row" "[I", .methodLink RX12 128 yX12_in, .static yX12_in, .code yX12_in cX12_in 6 (some .boolean), .methodLink RX12 136 yX12_kind, .instanceMethod yX12_kind, .selects RX12 yX12_kind yX12_kind, .code yX12_kind cX12_kind 2 (some .int), .methodLink RX12 125 yX12_at, .static yX12_at, .code yX12_at cX12_at 1 (some .int)] ++ wsX120)
theorem m_X12_call_0 : (.fieldLink RX12 105 "RestBoardModel" "thrown" "I" : Cond) ∈ v_X12_call := List.mem_of_getElem? (i := 1) (by decide +kernel)
theorem i_X12_call_X12 : ∀ w ∈ u_ws RX12 TX12 59, w ∈ v_X12_call := fun w h => List.mem_cons_of_mem _ (List.mem_append_right _ h)
set_option maxRecDepth 100000 in
theorem gg_X12_call_X12_isValue_416 : GoodIn v_X12_call v_X12_isValue := goodIn_r _ [5, 6] (by decide +kernel) (by decide +kernel)
set_option maxRecDepth 100000 in
theorem g_X12_call_X12_isValue_416 : GoodIn v_X12_call (va_wsS RX12 416 yX12_isValue v_X12_isValue) := goodIn_app (goodIn_r _ [2, 3, 4] (by decide +kernel) (by decide +kernel)) gg_X12_call_X12_isValue_416
set_option maxRecDepth 100000 in
theorem gg_X12_call_X12_refuse_118 : GoodIn v_X12_call v_X12_refuse := goodIn_r _ [10, 11, 12, 32, 33, 34, 35, 36, 37, 38, 39, 40, 41, 42, 43, 44, 45, 46, 47, 48, 49, 50, 51, 52, 53, 54, 55, 56, 57, 58, 59, 60, 61, 62, 63, 64, 65, 66, 67, 68, 69, 70, 71, 72, 73, 74, 75, 76, 77, 78, 79, 80, 81, 82, 83, 84, 85, 86, 87, 88, 89, 90] (by decide +kernel) (by decide +kernel)
set_option maxRecDepth 100000 in
theorem g_X12_call_X12_refuse_118 : GoodIn v_X12_call (wsV RX12 118 RX12 yX12_refuse v_X12_refuse) := goodIn_app (goodIn_r _ [7, 8, 9, 4] (by decide +kernel) (by decide +kernel)) gg_X12_call_X12_refuse_118
set_option maxRecDepth 100000 in
theorem gg_X12_call_X12_isOf_143 : GoodIn v_X12_call v_X12_isOf := goodIn_r _ [16, 17, 18, 19, 4, 20, 21, 22, 23, 24, 25, 26, 27, 28, 29, 30, 31, 32, 33, 34, 35, 36, 37, 38, 39, 40, 41, 42, 43, 44, 45, 46, 47, 48, 49, 50, 51, 52, 53, 54, 55, 56, 57, 58, 59, 60, 61, 62, 63, 64, 65, 66, 67, 68, 69, 70, 71, 72, 73, 74, 75, 76, 77, 78, 79, 80, 81, 82, 83, 84, 85, 86, 87, 88, 89, 90] (by decide +kernel) (by decide +kernel)
set_option maxRecDepth 100000 in
theorem g_X12_call_X12_isOf_143 : GoodIn v_X12_call (wsV RX12 143 RX12 yX12_isOf v_X12_isOf) := goodIn_app (goodIn_r _ [13, 14, 15, 4] (by decide +kernel) (by decide +kernel)) gg_X12_call_X12_isOf_143
set_option maxHeartbeats 4000000 in
set_option maxRecDepth 100000 in
theorem c_X12_call (l : Launch) (dC : Nat → ClassId) (dI : Nat → Nat → Nat) (cy : Nat → ClassId) (b : Nat → Nat) (sz : Nat) (p0 p1 p2 p3 : Int32) : Met l yX12_call v_X12_call ({ frames := 3, cells := 0, slots := 0, locals := 68 }) (va_Pc [.ref (b 0), .int p0, .int p1, .int p2, .int p3] (ps dC dI cy (mw b cy) sz)) (va_Qi (fun (r : Int32) (_ : Unit) => ((p1 < 0) ∧ r = (-1)) ∨ ((¬ p1 < 0) ∧ ((65536 : Int32) ≤ p1) ∧ r = (-1)) ∨ ((¬ p1 < 0) ∧ (¬ (65536 : Int32) ≤ p1) ∧ (p2 < 0) ∧ r = (-1)) ∨ ((¬ p1 < 0) ∧ (¬ (65536 : Int32) ≤ p1) ∧ (¬ p2 < 0) ∧ ((65536 : Int32) ≤ p2) ∧ r = (-1)) ∨ ((¬ p1 < 0) ∧ (¬ (65536 : Int32) ≤ p1) ∧ (¬ p2 < 0) ∧ (¬ (65536 : Int32) ≤ p2) ∧ (p3 < 0) ∧ r = (-1)) ∨ ((¬ p1 < 0) ∧ (¬ (65536 : Int32) ≤ p1) ∧ (¬ p2 < 0) ∧ (¬ (65536 : Int32) ≤ p2) ∧ (¬ p3 < 0) ∧ ((65536 : Int32) ≤ p3) ∧ r = (-1)) ∨ ((¬ p1 < 0) ∧ (¬ (65536 : Int32) ≤ p1) ∧ (¬ p2 < 0) ∧ (¬ (65536 : Int32) ≤ p2) ∧ (¬ p3 < 0) ∧ (¬ (65536 : Int32) ≤ p3) ∧ (p0 < 0) ∧ r = (-2)) ∨ ((¬ p1 < 0) ∧ (¬ (65536 : Int32) ≤ p1) ∧ (¬ p2 < 0) ∧ (¬ (65536 : Int32) ≤ p2) ∧ (¬ p3 < 0) ∧ (¬ (65536 : Int32) ≤ p3) ∧ (¬ p0 < 0) ∧ ((0 : Int32) < p0) ∧ r = (-2)) ∨ ((¬ p1 < 0) ∧ (¬ (65536 : Int32) ≤ p1) ∧ (¬ p2 < 0) ∧ (¬ (65536 : Int32) ≤ p2) ∧ (¬ p3 < 0) ∧ (¬ (65536 : Int32) ≤ p3) ∧ (p0 = 0) ∧ r = (-2))) (fun _ _ => True) (va_A (mw b cy) sz)) 0 0 (va_A (mw b cy) sz) := by
  refine Met.ofW (cc := cX12_call) (maxL := 5) (ret := (some .int)) (by decide) rfl ?_
  intro p e s m args below meth c s₁ B hml hv
  obtain ⟨rfl, hsz, hP, hC, hD0⟩ := hv
  have hK := hC.1
  have hx := B.exec
  have hb := B.bytes
  have hr := B.returns
  have hts := atoms_spec (ws := v_X12_call) B.pre
  have hown : s.vm.findClass RX12 = some m.cls := findClass_of_methodNamed B.named
  have hlocks := B.notSynchronized
  subst hsz
  have hD := hD0.self (sz := s.heap.size)
  generalize hAe : va_A (mw b cy) s.heap.size = A at hD ⊢
  have hA : ∀ q : Nat, s.heap.size ≤ q → A q := fun q h => by rw [← hAe]; exact Or.inr h
  have hS : va_S A s.heap s.heap [] := va_S.rf
  have hl := lv_entry ([.ref (b 0), .int p0, .int p1, .int p2, .int p3]) (n := 5) (Nat.le_of_ble_eq_true rfl)
  rw [lg_entry_eq]
  generalize (lg_sl ([.ref (b 0), .int p0, .int p1, .int p2, .int p3]) ++ List.replicate (5 - (lg_sl ([.ref (b 0), .int p0, .int p1, .int p2, .int p3])).length) Slot.unset).toArray = ls at hl ⊢
  have hl : lv_has ls 5 [(0, .ref (b 0)), (1, .int p0), (2, .int p1), (3, .int p2), (4, .int p3)] := hl
  refine lv_aload_n hx hb dX12_call_0 rfl (lv_at hl 0 rfl) ?_
  refine lv_iconst (v := 0) hx hb dX12_call_1 (by decide) ?_
  refine va_put (D := (dC, dI)) (ci := 12) (v := .int 0) (ty := .int) (C := RX12) (T := TX12) (N := 59) hx hb hts i_X12_call_X12 tyX12 tyX12_ok nmX12 hown hK hP hD hS 0 rfl rfl 0 (by decide) (hts _ m_X12_call_0) (fun _ h9 => h9) rfl (by decide +kernel) rfl rfl (Nat.le_of_ble_eq_true rfl) dX12_call_2 (fun H locs hP hD hS => ?_)
  have hP : va_P (dC, dI) vwCl (mw b cy) H := hP
  have hD : va_D A (mw b cy) := hD
  refine lv_iload_n hx hb dX12_call_5 rfl (lv_at hl 2 rfl) ?_
  refine tk_pi (va_runS (As := [.int p1]) (rest := []) ⟨hx, hb, hml, hown, hts⟩ (c_X12_isValue l dC dI cy  p1) (va_cwS 1 hts g_X12_call_X12_isValue_416 rfl rfl rfl (by decide +kernel) ⟨Nat.le_of_ble_eq_true rfl, Nat.le_of_ble_eq_true rfl⟩) (pS_pp hC va_P0) rfl rfl hl.1 rfl (lv_room (Nat.le_of_ble_eq_true rfl)) dX12_call_6 ⟨Nat.le_of_ble_eq_true rfl, Nat.le_of_ble_eq_true rfl⟩) hP hS (fun r_ H locs hw hP hS => ?_)
  rcases hw with ⟨c1_, rfl⟩ | ⟨c2_, c3_, rfl⟩ | ⟨c4_, c5_, rfl⟩
  · skip
    refine lv_if_eq (tgt := 27) hx hb dX12_call_9 (by decide) (fun _ => ?_) (fun c9_ => absurd (by decide) c9_)
    refine lv_aload_n hx hb dX12_call_27 rfl (lv_at hl 0 rfl) ?_
    refine lv_iconst (v := (-1)) hx hb dX12_call_28 (by decide) ?_
    have hPc : va_P (dC, dI) vwCl ([(b 0, .inr (12, [.int 0, .int 0, .ref (b 1), .ref (b 2), .ref (b 3), .ref (b 4), .int 0, .ref (b 5), .ref (b 6), .int 0, .int 0, .int 0, .int (-1), .int 0, .ref (b 7), .ref (b 20), .int 0, .ref (b 21), .ref (b 22), .int 0, .int 0, .ref (b 23), .int 0, .int 0, .int 0, .int 0, .ref (b 24), .ref (b 25), .ref (b 26), .int 0, .ref (b 27), .int 0, .ref (b 28), .ref (b 29), .ref (b 30), .ref (b 31), .ref (b 32), .ref (b 33), .ref (b 34), .int 0, .int 0, .int 0, .int 0, .int 0, .int 0, .ref (b 35), .ref (b 36), .ref (b 37), .int 0, .int 0, .int 0, .ref (b 38), .int 0, .int 0, .ref (b 39), .ref (b 40), .ref (b 41), .ref (b 42), .int 0])), (b 1, .inl (cy 0, 8, .inl (fun _ => 0)))]) _ := hP.sub [0, 1] rfl
    have hDc := hD.sub (ws' := [(b 0, .inr (12, [.int 0, .int 0, .ref (b 1), .ref (b 2), .ref (b 3), .ref (b 4), .int 0, .ref (b 5), .ref (b 6), .int 0, .int 0, .int 0, .int (-1), .int 0, .ref (b 7), .ref (b 20), .int 0, .ref (b 21), .ref (b 22), .int 0, .int 0, .ref (b 23), .int 0, .int 0, .int 0, .int 0, .ref (b 24), .ref (b 25), .ref (b 26), .int 0, .ref (b 27), .int 0, .ref (b 28), .ref (b 29), .ref (b 30), .ref (b 31), .ref (b 32), .ref (b 33), .ref (b 34), .int 0, .int 0, .int 0, .int 0, .int 0, .int 0, .ref (b 35), .ref (b 36), .ref (b 37), .int 0, .int 0, .int 0, .ref (b 38), .int 0, .int 0, .ref (b 39), .ref (b 40), .ref (b 41), .ref (b 42), .int 0])), (b 1, .inl (cy 0, 8, .inl (fun _ => 0)))]) [0, 1] (by decide) rfl
    have hFc := va_free (wc := [(b 0, .inr (12, [.int 0, .int 0, .ref (b 1), .ref (b 2), .ref (b 3), .ref (b 4), .int 0, .ref (b 5), .ref (b 6), .int 0, .int 0, .int 0, .int (-1), .int 0, .ref (b 7), .ref (b 20), .int 0, .ref (b 21), .ref (b 22), .int 0, .int 0, .ref (b 23), .int 0, .int 0, .int 0, .int 0, .ref (b 24), .ref (b 25), .ref (b 26), .int 0, .ref (b 27), .int 0, .ref (b 28), .ref (b 29), .ref (b 30), .ref (b 31), .ref (b 32), .ref (b 33), .ref (b 34), .int 0, .int 0, .int 0, .int 0, .int 0, .int 0, .ref (b 35), .ref (b 36), .ref (b 37), .int 0, .int 0, .int 0, .ref (b 38), .int 0, .int 0, .ref (b 39), .ref (b 40), .ref (b 41), .ref (b 42), .int 0])), (b 1, .inl (cy 0, 8, .inl (fun _ => 0)))]) hD hS hA [0, 1] rfl
    refine va_calli (va_runV (As := [.int (-1)]) (rest := []) ⟨hx, hb, hml, hown, hts⟩ (c_X12_refuse_1 l dC dI cy b _ 0 (-1) 0 0 0 0 0 0 0) (cwV 1 hts g_X12_call_X12_refuse_118 rfl rfl rfl (by decide +kernel) ⟨Nat.le_of_ble_eq_true rfl, Nat.le_of_ble_eq_true rfl⟩) (pv_ps hC hPc hDc (ci := 12) (q0 := 0) rfl rfl) rfl rfl hl.1 rfl (lv_room (Nat.le_of_ble_eq_true rfl)) dX12_call_29 ⟨Nat.le_of_ble_eq_true rfl, Nat.le_of_ble_eq_true rfl⟩) hS (fun q _ h => hFc q h) hFc (fun r_ u t_ H1 locs ht hvm hw hB hz1 hk1 hS => ?_)
    obtain ⟨hP, hD⟩ := va_join (wr := []) (w1 := []) hP hD [0, 1] [] rfl rfl (by decide) (by decide) hk1 hFc va_P0 va_D0
    generalize H1 = H at hP hS ⊢
    have hP : va_P (dC, dI) vwCl ([]) H := hP
    have hD : va_D A ([]) := hD
    subst hw
    exact W.iret (v := (-1)) hx hb hr (fun t ht hW => ⟨⟨(-1), (), rfl, Or.inl (⟨c1_, rfl⟩), trivial⟩, hS.F ht⟩) hS.2.2 dX12_call_32
  · skip
    refine lv_if_eq (tgt := 27) hx hb dX12_call_9 (by decide) (fun _ => ?_) (fun c9_ => absurd (by decide) c9_)
    refine lv_aload_n hx hb dX12_call_27 rfl (lv_at hl 0 rfl) ?_
    refine lv_iconst (v := (-1)) hx hb dX12_call_28 (by decide) ?_
    have hPc : va_P (dC, dI) vwCl ([(b 0, .inr (12, [.int 0, .int 0, .ref (b 1), .ref (b 2), .ref (b 3), .ref (b 4), .int 0, .ref (b 5), .ref (b 6), .int 0, .int 0, .int 0, .int (-1), .int 0, .ref (b 7), .ref (b 20), .int 0, .ref (b 21), .ref (b 22), .int 0, .int 0, .ref (b 23), .int 0, .int 0, .int 0, .int 0, .ref (b 24), .ref (b 25), .ref (b 26), .int 0, .ref (b 27), .int 0, .ref (b 28), .ref (b 29), .ref (b 30), .ref (b 31), .ref (b 32), .ref (b 33), .ref (b 34), .int 0, .int 0, .int 0, .int 0, .int 0, .int 0, .ref (b 35), .ref (b 36), .ref (b 37), .int 0, .int 0, .int 0, .ref (b 38), .int 0, .int 0, .ref (b 39), .ref (b 40), .ref (b 41), .ref (b 42), .int 0])), (b 1, .inl (cy 0, 8, .inl (fun _ => 0)))]) _ := hP.sub [0, 1] rfl
    have hDc := hD.sub (ws' := [(b 0, .inr (12, [.int 0, .int 0, .ref (b 1), .ref (b 2), .ref (b 3), .ref (b 4), .int 0, .ref (b 5), .ref (b 6), .int 0, .int 0, .int 0, .int (-1), .int 0, .ref (b 7), .ref (b 20), .int 0, .ref (b 21), .ref (b 22), .int 0, .int 0, .ref (b 23), .int 0, .int 0, .int 0, .int 0, .ref (b 24), .ref (b 25), .ref (b 26), .int 0, .ref (b 27), .int 0, .ref (b 28), .ref (b 29), .ref (b 30), .ref (b 31), .ref (b 32), .ref (b 33), .ref (b 34), .int 0, .int 0, .int 0, .int 0, .int 0, .int 0, .ref (b 35), .ref (b 36), .ref (b 37), .int 0, .int 0, .int 0, .ref (b 38), .int 0, .int 0, .ref (b 39), .ref (b 40), .ref (b 41), .ref (b 42), .int 0])), (b 1, .inl (cy 0, 8, .inl (fun _ => 0)))]) [0, 1] (by decide) rfl
    have hFc := va_free (wc := [(b 0, .inr (12, [.int 0, .int 0, .ref (b 1), .ref (b 2), .ref (b 3), .ref (b 4), .int 0, .ref (b 5), .ref (b 6), .int 0, .int 0, .int 0, .int (-1), .int 0, .ref (b 7), .ref (b 20), .int 0, .ref (b 21), .ref (b 22), .int 0, .int 0, .ref (b 23), .int 0, .int 0, .int 0, .int 0, .ref (b 24), .ref (b 25), .ref (b 26), .int 0, .ref (b 27), .int 0, .ref (b 28), .ref (b 29), .ref (b 30), .ref (b 31), .ref (b 32), .ref (b 33), .ref (b 34), .int 0, .int 0, .int 0, .int 0, .int 0, .int 0, .ref (b 35), .ref (b 36), .ref (b 37), .int 0, .int 0, .int 0, .ref (b 38), .int 0, .int 0, .ref (b 39), .ref (b 40), .ref (b 41), .ref (b 42), .int 0])), (b 1, .inl (cy 0, 8, .inl (fun _ => 0)))]) hD hS hA [0, 1] rfl
    refine va_calli (va_runV (As := [.int (-1)]) (rest := []) ⟨hx, hb, hml, hown, hts⟩ (c_X12_refuse_1 l dC dI cy b _ 0 (-1) 0 0 0 0 0 0 0) (cwV 1 hts g_X12_call_X12_refuse_118 rfl rfl rfl (by decide +kernel) ⟨Nat.le_of_ble_eq_true rfl, Nat.le_of_ble_eq_true rfl⟩) (pv_ps hC hPc hDc (ci := 12) (q0 := 0) rfl rfl) rfl rfl hl.1 rfl (lv_room (Nat.le_of_ble_eq_true rfl)) dX12_call_29 ⟨Nat.le_of_ble_eq_true rfl, Nat.le_of_ble_eq_true rfl⟩) hS (fun q _ h => hFc q h) hFc (fun r_ u t_ H1 locs ht hvm hw hB hz1 hk1 hS => ?_)
    obtain ⟨hP, hD⟩ := va_join (wr := []) (w1 := []) hP hD [0, 1] [] rfl rfl (by decide) (by decide) hk1 hFc va_P0 va_D0
    generalize H1 = H at hP hS ⊢
    have hP : va_P (dC, dI) vwCl ([]) H := hP
    have hD : va_D A ([]) := hD
    subst hw
    exact W.iret (v := (-1)) hx hb hr (fun t ht hW => ⟨⟨(-1), (), rfl, Or.inr (Or.inl (⟨c2_, c3_, rfl⟩)), trivial⟩, hS.F ht⟩) hS.2.2 dX12_call_32
  · skip
    refine lv_if_eq (tgt := 27) hx hb dX12_call_9 (by decide) (fun c9_ => absurd c9_ (by decide)) (fun _ => ?_)
    refine lv_iload_n hx hb dX12_call_12 rfl (lv_at hl 3 rfl) ?_
    refine tk_pi (va_runS (As := [.int p2]) (rest := []) ⟨hx, hb, hml, hown, hts⟩ (c_X12_isValue l dC dI cy  p2) (va_cwS 1 hts g_X12_call_X12_isValue_416 rfl rfl rfl (by decide +kernel) ⟨Nat.le_of_ble_eq_true rfl, Nat.le_of_ble_eq_true rfl⟩) (pS_pp hC va_P0) rfl rfl hl.1 rfl (lv_room (Nat.le_of_ble_eq_true rfl)) dX12_call_13 ⟨Nat.le_of_ble_eq_true rfl, Nat.le_of_ble_eq_true rfl⟩) hP hS (fun r_ H locs hw hP hS => ?_)
    rcases hw with ⟨c6_, rfl⟩ | ⟨c7_, c8_, rfl⟩ | ⟨c9_, c10_, rfl⟩
    · skip
      refine lv_if_eq (tgt := 27) hx hb dX12_call_16 (by decide) (fun _ => ?_) (fun c9_ => absurd (by decide) c9_)
      refine lv_aload_n hx hb dX12_call_27 rfl (lv_at hl 0 rfl) ?_
      refine lv_iconst (v := (-1)) hx hb dX12_call_28 (by decide) ?_
      have hPc : va_P (dC, dI) vwCl ([(b 0, .inr (12, [.int 0, .int 0, .ref (b 1), .ref (b 2), .ref (b 3), .ref (b 4), .int 0, .ref (b 5), .ref (b 6), .int 0, .int 0, .int 0, .int (-1), .int 0, .ref (b 7), .ref (b 20), .int 0, .ref (b 21), .ref (b 22), .int 0, .int 0, .ref (b 23), .int 0, .int 0, .int 0, .int 0, .ref (b 24), .ref (b 25), .ref (b 26), .int 0, .ref (b 27), .int 0, .ref (b 28), .ref (b 29), .ref (b 30), .ref (b 31), .ref (b 32), .ref (b 33), .ref (b 34), .int 0, .int 0, .int 0, .int 0, .int 0, .int 0, .ref (b 35), .ref (b 36), .ref (b 37), .int 0, .int 0, .int 0, .ref (b 38), .int 0, .int 0, .ref (b 39), .ref (b 40), .ref (b 41), .ref (b 42), .int 0])), (b 1, .inl (cy 0, 8, .inl (fun _ => 0)))]) _ := hP.sub [0, 1] rfl
      have hDc := hD.sub (ws' := [(b 0, .inr (12, [.int 0, .int 0, .ref (b 1), .ref (b 2), .ref (b 3), .ref (b 4), .int 0, .ref (b 5), .ref (b 6), .int 0, .int 0, .int 0, .int (-1), .int 0, .ref (b 7), .ref (b 20), .int 0, .ref (b 21), .ref (b 22), .int 0, .int 0, .ref (b 23), .int 0, .int 0, .int 0, .int 0, .ref (b 24), .ref (b 25), .ref (b 26), .int 0, .ref (b 27), .int 0, .ref (b 28), .ref (b 29), .ref (b 30), .ref (b 31), .ref (b 32), .ref (b 33), .ref (b 34), .int 0, .int 0, .int 0, .int 0, .int 0, .int 0, .ref (b 35), .ref (b 36), .ref (b 37), .int 0, .int 0, .int 0, .ref (b 38), .int 0, .int 0, .ref (b 39), .ref (b 40), .ref (b 41), .ref (b 42), .int 0])), (b 1, .inl (cy 0, 8, .inl (fun _ => 0)))]) [0, 1] (by decide) rfl
      have hFc := va_free (wc := [(b 0, .inr (12, [.int 0, .int 0, .ref (b 1), .ref (b 2), .ref (b 3), .ref (b 4), .int 0, .ref (b 5), .ref (b 6), .int 0, .int 0, .int 0, .int (-1), .int 0, .ref (b 7), .ref (b 20), .int 0, .ref (b 21), .ref (b 22), .int 0, .int 0, .ref (b 23), .int 0, .int 0, .int 0, .int 0, .ref (b 24), .ref (b 25), .ref (b 26), .int 0, .ref (b 27), .int 0, .ref (b 28), .ref (b 29), .ref (b 30), .ref (b 31), .ref (b 32), .ref (b 33), .ref (b 34), .int 0, .int 0, .int 0, .int 0, .int 0, .int 0, .ref (b 35), .ref (b 36), .ref (b 37), .int 0, .int 0, .int 0, .ref (b 38), .int 0, .int 0, .ref (b 39), .ref (b 40), .ref (b 41), .ref (b 42), .int 0])), (b 1, .inl (cy 0, 8, .inl (fun _ => 0)))]) hD hS hA [0, 1] rfl
      refine va_calli (va_runV (As := [.int (-1)]) (rest := []) ⟨hx, hb, hml, hown, hts⟩ (c_X12_refuse_1 l dC dI cy b _ 0 (-1) 0 0 0 0 0 0 0) (cwV 1 hts g_X12_call_X12_refuse_118 rfl rfl rfl (by decide +kernel) ⟨Nat.le_of_ble_eq_true rfl, Nat.le_of_ble_eq_true rfl⟩) (pv_ps hC hPc hDc (ci := 12) (q0 := 0) rfl rfl) rfl rfl hl.1 rfl (lv_room (Nat.le_of_ble_eq_true rfl)) dX12_call_29 ⟨Nat.le_of_ble_eq_true rfl, Nat.le_of_ble_eq_true rfl⟩) hS (fun q _ h => hFc q h) hFc (fun r_ u t_ H1 locs ht hvm hw hB hz1 hk1 hS => ?_)
      obtain ⟨hP, hD⟩ := va_join (wr := []) (w1 := []) hP hD [0, 1] [] rfl rfl (by decide) (by decide) hk1 hFc va_P0 va_D0
      generalize H1 = H at hP hS ⊢
      have hP : va_P (dC, dI) vwCl ([]) H := hP
      have hD : va_D A ([]) := hD
      subst hw
      exact W.iret (v := (-1)) hx hb hr (fun t ht hW => ⟨⟨(-1), (), rfl, Or.inr (Or.inr (Or.inl (⟨c4_, c5_, c6_, rfl⟩))), trivial⟩, hS.F ht⟩) hS.2.2 dX12_call_32
    · skip
      refine lv_if_eq (tgt := 27) hx hb dX12_call_16 (by decide) (fun _ => ?_) (fun c9_ => absurd (by decide) c9_)
      refine lv_aload_n hx hb dX12_call_27 rfl (lv_at hl 0 rfl) ?_
      refine lv_iconst (v := (-1)) hx hb dX12_call_28 (by decide) ?_
      have hPc : va_P (dC, dI) vwCl ([(b 0, .inr (12, [.int 0, .int 0, .ref (b 1), .ref (b 2), .ref (b 3), .ref (b 4), .int 0, .ref (b 5), .ref (b 6), .int 0, .int 0, .int 0, .int (-1), .int 0, .ref (b 7), .ref (b 20), .int 0, .ref (b 21), .ref (b 22), .int 0, .int 0, .ref (b 23), .int 0, .int 0, .int 0, .int 0, .ref (b 24), .ref (b 25), .ref (b 26), .int 0, .ref (b 27), .int 0, .ref (b 28), .ref (b 29), .ref (b 30), .ref (b 31), .ref (b 32), .ref (b 33), .ref (b 34), .int 0, .int 0, .int 0, .int 0, .int 0, .int 0, .ref (b 35), .ref (b 36), .ref (b 37), .int 0, .int 0, .int 0, .ref (b 38), .int 0, .int 0, .ref (b 39), .ref (b 40), .ref (b 41), .ref (b 42), .int 0])), (b 1, .inl (cy 0, 8, .inl (fun _ => 0)))]) _ := hP.sub [0, 1] rfl
      have hDc := hD.sub (ws' := [(b 0, .inr (12, [.int 0, .int 0, .ref (b 1), .ref (b 2), .ref (b 3), .ref (b 4), .int 0, .ref (b 5), .ref (b 6), .int 0, .int 0, .int 0, .int (-1), .int 0, .ref (b 7), .ref (b 20), .int 0, .ref (b 21), .ref (b 22), .int 0, .int 0, .ref (b 23), .int 0, .int 0, .int 0, .int 0, .ref (b 24), .ref (b 25), .ref (b 26), .int 0, .ref (b 27), .int 0, .ref (b 28), .ref (b 29), .ref (b 30), .ref (b 31), .ref (b 32), .ref (b 33), .ref (b 34), .int 0, .int 0, .int 0, .int 0, .int 0, .int 0, .ref (b 35), .ref (b 36), .ref (b 37), .int 0, .int 0, .int 0, .ref (b 38), .int 0, .int 0, .ref (b 39), .ref (b 40), .ref (b 41), .ref (b 42), .int 0])), (b 1, .inl (cy 0, 8, .inl (fun _ => 0)))]) [0, 1] (by decide) rfl
      have hFc := va_free (wc := [(b 0, .inr (12, [.int 0, .int 0, .ref (b 1), .ref (b 2), .ref (b 3), .ref (b 4), .int 0, .ref (b 5), .ref (b 6), .int 0, .int 0, .int 0, .int (-1), .int 0, .ref (b 7), .ref (b 20), .int 0, .ref (b 21), .ref (b 22), .int 0, .int 0, .ref (b 23), .int 0, .int 0, .int 0, .int 0, .ref (b 24), .ref (b 25), .ref (b 26), .int 0, .ref (b 27), .int 0, .ref (b 28), .ref (b 29), .ref (b 30), .ref (b 31), .ref (b 32), .ref (b 33), .ref (b 34), .int 0, .int 0, .int 0, .int 0, .int 0, .int 0, .ref (b 35), .ref (b 36), .ref (b 37), .int 0, .int 0, .int 0, .ref (b 38), .int 0, .int 0, .ref (b 39), .ref (b 40), .ref (b 41), .ref (b 42), .int 0])), (b 1, .inl (cy 0, 8, .inl (fun _ => 0)))]) hD hS hA [0, 1] rfl
      refine va_calli (va_runV (As := [.int (-1)]) (rest := []) ⟨hx, hb, hml, hown, hts⟩ (c_X12_refuse_1 l dC dI cy b _ 0 (-1) 0 0 0 0 0 0 0) (cwV 1 hts g_X12_call_X12_refuse_118 rfl rfl rfl (by decide +kernel) ⟨Nat.le_of_ble_eq_true rfl, Nat.le_of_ble_eq_true rfl⟩) (pv_ps hC hPc hDc (ci := 12) (q0 := 0) rfl rfl) rfl rfl hl.1 rfl (lv_room (Nat.le_of_ble_eq_true rfl)) dX12_call_29 ⟨Nat.le_of_ble_eq_true rfl, Nat.le_of_ble_eq_true rfl⟩) hS (fun q _ h => hFc q h) hFc (fun r_ u t_ H1 locs ht hvm hw hB hz1 hk1 hS => ?_)
      obtain ⟨hP, hD⟩ := va_join (wr := []) (w1 := []) hP hD [0, 1] [] rfl rfl (by decide) (by decide) hk1 hFc va_P0 va_D0
      generalize H1 = H at hP hS ⊢
      have hP : va_P (dC, dI) vwCl ([]) H := hP
      have hD : va_D A ([]) := hD
      subst hw
      exact W.iret (v := (-1)) hx hb hr (fun t ht hW => ⟨⟨(-1), (), rfl, Or.inr (Or.inr (Or.inr (Or.inl (⟨c4_, c5_, c7_, c8_, rfl⟩)))), trivial⟩, hS.F ht⟩) hS.2.2 dX12_call_32
    · skip
      refine lv_if_eq (tgt := 27) hx hb dX12_call_16 (by decide) (fun c9_ => absurd c9_ (by decide)) (fun _ => ?_)
      refine lv_iload hx hb dX12_call_19 (lv_at hl 4 rfl) ?_
      refine tk_pi (va_runS (As := [.int p3]) (rest := []) ⟨hx, hb, hml, hown, hts⟩ (c_X12_isValue l dC dI cy  p3) (va_cwS 1 hts g_X12_call_X12_isValue_416 rfl rfl rfl (by decide +kernel) ⟨Nat.le_of_ble_eq_true rfl, Nat.le_of_ble_eq_true rfl⟩) (pS_pp hC va_P0) rfl rfl hl.1 rfl (lv_room (Nat.le_of_ble_eq_true rfl)) dX12_call_21 ⟨Nat.le_of_ble_eq_true rfl, Nat.le_of_ble_eq_true rfl⟩) hP hS (fun r_ H locs hw hP hS => ?_)
      rcases hw with ⟨c11_, rfl⟩ | ⟨c12_, c13_, rfl⟩ | ⟨c14_, c15_, rfl⟩
      · skip
        refine lv_if_ne (tgt := 33) hx hb dX12_call_24 (by decide) (fun c9_ => absurd (by decide) c9_) (fun _ => ?_)
        refine lv_aload_n hx hb dX12_call_27 rfl (lv_at hl 0 rfl) ?_
        refine lv_iconst (v := (-1)) hx hb dX12_call_28 (by decide) ?_
        have hPc : va_P (dC, dI) vwCl ([(b 0, .inr (12, [.int 0, .int 0, .ref (b 1), .ref (b 2), .ref (b 3), .ref (b 4), .int 0, .ref (b 5), .ref (b 6), .int 0, .int 0, .int 0, .int (-1), .int 0, .ref (b 7), .ref (b 20), .int 0, .ref (b 21), .ref (b 22), .int 0, .int 0, .ref (b 23), .int 0, .int 0, .int 0, .int 0, .ref (b 24), .ref (b 25), .ref (b 26), .int 0, .ref (b 27), .int 0, .ref (b 28), .ref (b 29), .ref (b 30), .ref (b 31), .ref (b 32), .ref (b 33), .ref (b 34), .int 0, .int 0, .int 0, .int 0, .int 0, .int 0, .ref (b 35), .ref (b 36), .ref (b 37), .int 0, .int 0, .int 0, .ref (b 38), .int 0, .int 0, .ref (b 39), .ref (b 40), .ref (b 41), .ref (b 42), .int 0])), (b 1, .inl (cy 0, 8, .inl (fun _ => 0)))]) _ := hP.sub [0, 1] rfl
        have hDc := hD.sub (ws' := [(b 0, .inr (12, [.int 0, .int 0, .ref (b 1), .ref (b 2), .ref (b 3), .ref (b 4), .int 0, .ref (b 5), .ref (b 6), .int 0, .int 0, .int 0, .int (-1), .int 0, .ref (b 7), .ref (b 20), .int 0, .ref (b 21), .ref (b 22), .int 0, .int 0, .ref (b 23), .int 0, .int 0, .int 0, .int 0, .ref (b 24), .ref (b 25), .ref (b 26), .int 0, .ref (b 27), .int 0, .ref (b 28), .ref (b 29), .ref (b 30), .ref (b 31), .ref (b 32), .ref (b 33), .ref (b 34), .int 0, .int 0, .int 0, .int 0, .int 0, .int 0, .ref (b 35), .ref (b 36), .ref (b 37), .int 0, .int 0, .int 0, .ref (b 38), .int 0, .int 0, .ref (b 39), .ref (b 40), .ref (b 41), .ref (b 42), .int 0])), (b 1, .inl (cy 0, 8, .inl (fun _ => 0)))]) [0, 1] (by decide) rfl
        have hFc := va_free (wc := [(b 0, .inr (12, [.int 0, .int 0, .ref (b 1), .ref (b 2), .ref (b 3), .ref (b 4), .int 0, .ref (b 5), .ref (b 6), .int 0, .int 0, .int 0, .int (-1), .int 0, .ref (b 7), .ref (b 20), .int 0, .ref (b 21), .ref (b 22), .int 0, .int 0, .ref (b 23), .int 0, .int 0, .int 0, .int 0, .ref (b 24), .ref (b 25), .ref (b 26), .int 0, .ref (b 27), .int 0, .ref (b 28), .ref (b 29), .ref (b 30), .ref (b 31), .ref (b 32), .ref (b 33), .ref (b 34), .int 0, .int 0, .int 0, .int 0, .int 0, .int 0, .ref (b 35), .ref (b 36), .ref (b 37), .int 0, .int 0, .int 0, .ref (b 38), .int 0, .int 0, .ref (b 39), .ref (b 40), .ref (b 41), .ref (b 42), .int 0])), (b 1, .inl (cy 0, 8, .inl (fun _ => 0)))]) hD hS hA [0, 1] rfl
        refine va_calli (va_runV (As := [.int (-1)]) (rest := []) ⟨hx, hb, hml, hown, hts⟩ (c_X12_refuse_1 l dC dI cy b _ 0 (-1) 0 0 0 0 0 0 0) (cwV 1 hts g_X12_call_X12_refuse_118 rfl rfl rfl (by decide +kernel) ⟨Nat.le_of_ble_eq_true rfl, Nat.le_of_ble_eq_true rfl⟩) (pv_ps hC hPc hDc (ci := 12) (q0 := 0) rfl rfl) rfl rfl hl.1 rfl (lv_room (Nat.le_of_ble_eq_true rfl)) dX12_call_29 ⟨Nat.le_of_ble_eq_true rfl, Nat.le_of_ble_eq_true rfl⟩) hS (fun q _ h => hFc q h) hFc (fun r_ u t_ H1 locs ht hvm hw hB hz1 hk1 hS => ?_)
        obtain ⟨hP, hD⟩ := va_join (wr := []) (w1 := []) hP hD [0, 1] [] rfl rfl (by decide) (by decide) hk1 hFc va_P0 va_D0
        generalize H1 = H at hP hS ⊢
        have hP : va_P (dC, dI) vwCl ([]) H := hP
        have hD : va_D A ([]) := hD
        subst hw
        exact W.iret (v := (-1)) hx hb hr (fun t ht hW => ⟨⟨(-1), (), rfl, Or.inr (Or.inr (Or.inr (Or.inr (Or.inl (⟨c4_, c5_, c9_, c10_, c11_, rfl⟩))))), trivial⟩, hS.F ht⟩) hS.2.2 dX12_call_32
      · skip
        refine lv_if_ne (tgt := 33) hx hb dX12_call_24 (by decide) (fun c9_ => absurd (by decide) c9_) (fun _ => ?_)
        refine lv_aload_n hx hb dX12_call_27 rfl (lv_at hl 0 rfl) ?_
        refine lv_iconst (v := (-1)) hx hb dX12_call_28 (by decide) ?_
        have hPc : va_P (dC, dI) vwCl ([(b 0, .inr (12, [.int 0, .int 0, .ref (b 1), .ref (b 2), .ref (b 3), .ref (b 4), .int 0, .ref (b 5), .ref (b 6), .int 0, .int 0, .int 0, .int (-1), .int 0, .ref (b 7), .ref (b 20), .int 0, .ref (b 21), .ref (b 22), .int 0, .int 0, .ref (b 23), .int 0, .int 0, .int 0, .int 0, .ref (b 24), .ref (b 25), .ref (b 26), .int 0, .ref (b 27), .int 0, .ref (b 28), .ref (b 29), .ref (b 30), .ref (b 31), .ref (b 32), .ref (b 33), .ref (b 34), .int 0, .int 0, .int 0, .int 0, .int 0, .int 0, .ref (b 35), .ref (b 36), .ref (b 37), .int 0, .int 0, .int 0, .ref (b 38), .int 0, .int 0, .ref (b 39), .ref (b 40), .ref (b 41), .ref (b 42), .int 0])), (b 1, .inl (cy 0, 8, .inl (fun _ => 0)))]) _ := hP.sub [0, 1] rfl
        have hDc := hD.sub (ws' := [(b 0, .inr (12, [.int 0, .int 0, .ref (b 1), .ref (b 2), .ref (b 3), .ref (b 4), .int 0, .ref (b 5), .ref (b 6), .int 0, .int 0, .int 0, .int (-1), .int 0, .ref (b 7), .ref (b 20), .int 0, .ref (b 21), .ref (b 22), .int 0, .int 0, .ref (b 23), .int 0, .int 0, .int 0, .int 0, .ref (b 24), .ref (b 25), .ref (b 26), .int 0, .ref (b 27), .int 0, .ref (b 28), .ref (b 29), .ref (b 30), .ref (b 31), .ref (b 32), .ref (b 33), .ref (b 34), .int 0, .int 0, .int 0, .int 0, .int 0, .int 0, .ref (b 35), .ref (b 36), .ref (b 37), .int 0, .int 0, .int 0, .ref (b 38), .int 0, .int 0, .ref (b 39), .ref (b 40), .ref (b 41), .ref (b 42), .int 0])), (b 1, .inl (cy 0, 8, .inl (fun _ => 0)))]) [0, 1] (by decide) rfl
        have hFc := va_free (wc := [(b 0, .inr (12, [.int 0, .int 0, .ref (b 1), .ref (b 2), .ref (b 3), .ref (b 4), .int 0, .ref (b 5), .ref (b 6), .int 0, .int 0, .int 0, .int (-1), .int 0, .ref (b 7), .ref (b 20), .int 0, .ref (b 21), .ref (b 22), .int 0, .int 0, .ref (b 23), .int 0, .int 0, .int 0, .int 0, .ref (b 24), .ref (b 25), .ref (b 26), .int 0, .ref (b 27), .int 0, .ref (b 28), .ref (b 29), .ref (b 30), .ref (b 31), .ref (b 32), .ref (b 33), .ref (b 34), .int 0, .int 0, .int 0, .int 0, .int 0, .int 0, .ref (b 35), .ref (b 36), .ref (b 37), .int 0, .int 0, .int 0, .ref (b 38), .int 0, .int 0, .ref (b 39), .ref (b 40), .ref (b 41), .ref (b 42), .int 0])), (b 1, .inl (cy 0, 8, .inl (fun _ => 0)))]) hD hS hA [0, 1] rfl
        refine va_calli (va_runV (As := [.int (-1)]) (rest := []) ⟨hx, hb, hml, hown, hts⟩ (c_X12_refuse_1 l dC dI cy b _ 0 (-1) 0 0 0 0 0 0 0) (cwV 1 hts g_X12_call_X12_refuse_118 rfl rfl rfl (by decide +kernel) ⟨Nat.le_of_ble_eq_true rfl, Nat.le_of_ble_eq_true rfl⟩) (pv_ps hC hPc hDc (ci := 12) (q0 := 0) rfl rfl) rfl rfl hl.1 rfl (lv_room (Nat.le_of_ble_eq_true rfl)) dX12_call_29 ⟨Nat.le_of_ble_eq_true rfl, Nat.le_of_ble_eq_true rfl⟩) hS (fun q _ h => hFc q h) hFc (fun r_ u t_ H1 locs ht hvm hw hB hz1 hk1 hS => ?_)
        obtain ⟨hP, hD⟩ := va_join (wr := []) (w1 := []) hP hD [0, 1] [] rfl rfl (by decide) (by decide) hk1 hFc va_P0 va_D0
        generalize H1 = H at hP hS ⊢
        have hP : va_P (dC, dI) vwCl ([]) H := hP
        have hD : va_D A ([]) := hD
        subst hw
        exact W.iret (v := (-1)) hx hb hr (fun t ht hW => ⟨⟨(-1), (), rfl, Or.inr (Or.inr (Or.inr (Or.inr (Or.inr (Or.inl (⟨c4_, c5_, c9_, c10_, c12_, c13_, rfl⟩)))))), trivial⟩, hS.F ht⟩) hS.2.2 dX12_call_32
      · skip
        refine lv_if_ne (tgt := 33) hx hb dX12_call_24 (by decide) (fun _ => ?_) (fun c9_ => absurd c9_ (by decide))
        refine lv_aload_n hx hb dX12_call_33 rfl (lv_at hl 0 rfl) ?_
        refine lv_iload_n hx hb dX12_call_34 rfl (lv_at hl 1 rfl) ?_
        refine lv_iconst (v := 3) hx hb dX12_call_35 (by decide) ?_
        refine tk_pi (va_runV (As := [.int p0, .int 3]) (rest := []) ⟨hx, hb, hml, hown, hts⟩ (c_X12_isOf l dC dI cy b p0 3) (cwV 2 hts g_X12_call_X12_isOf_143 rfl rfl rfl (by decide +kernel) ⟨Nat.le_of_ble_eq_true rfl, Nat.le_of_ble_eq_true rfl⟩) (pv_pp hC hP (ci := 12) (q0 := 0) rfl rfl) rfl rfl hl.1 rfl (lv_room (Nat.le_of_ble_eq_true rfl)) dX12_call_36 ⟨Nat.le_of_ble_eq_true rfl, Nat.le_of_ble_eq_true rfl⟩) hP hS (fun r_ H locs hw hP hS => ?_)
        rcases hw with ⟨c16_, rfl⟩ | ⟨c17_, c18_, rfl⟩ | ⟨c19_, -, rfl⟩ | ⟨c21_, c22_, rfl⟩
        · skip
          refine lv_if_ne (tgt := 49) hx hb dX12_call_39 (by decide) (fun c9_ => absurd (by decide) c9_) (fun _ => ?_)
          refine lv_aload_n hx hb dX12_call_42 rfl (lv_at hl 0 rfl) ?_
          refine lv_bipush (v := (-2)) hx hb dX12_call_43 (by decide) ?_
          have hPc : va_P (dC, dI) vwCl ([(b 0, .inr (12, [.int 0, .int 0, .ref (b 1), .ref (b 2), .ref (b 3), .ref (b 4), .int 0, .ref (b 5), .ref (b 6), .int 0, .int 0, .int 0, .int (-1), .int 0, .ref (b 7), .ref (b 20), .int 0, .ref (b 21), .ref (b 22), .int 0, .int 0, .ref (b 23), .int 0, .int 0, .int 0, .int 0, .ref (b 24), .ref (b 25), .ref (b 26), .int 0, .ref (b 27), .int 0, .ref (b 28), .ref (b 29), .ref (b 30), .ref (b 31), .ref (b 32), .ref (b 33), .ref (b 34), .int 0, .int 0, .int 0, .int 0, .int 0, .int 0, .ref (b 35), .ref (b 36), .ref (b 37), .int 0, .int 0, .int 0, .ref (b 38), .int 0, .int 0, .ref (b 39), .ref (b 40), .ref (b 41), .ref (b 42), .int 0])), (b 1, .inl (cy 0, 8, .inl (fun _ => 0)))]) _ := hP.sub [0, 1] rfl
          have hDc := hD.sub (ws' := [(b 0, .inr (12, [.int 0, .int 0, .ref (b 1), .ref (b 2), .ref (b 3), .ref (b 4), .int 0, .ref (b 5), .ref (b 6), .int 0, .int 0, .int 0, .int (-1), .int 0, .ref (b 7), .ref (b 20), .int 0, .ref (b 21), .ref (b 22), .int 0, .int 0, .ref (b 23), .int 0, .int 0, .int 0, .int 0, .ref (b 24), .ref (b 25), .ref (b 26), .int 0, .ref (b 27), .int 0, .ref (b 28), .ref (b 29), .ref (b 30), .ref (b 31), .ref (b 32), .ref (b 33), .ref (b 34), .int 0, .int 0, .int 0, .int 0, .int 0, .int 0, .ref (b 35), .ref (b 36), .ref (b 37), .int 0, .int 0, .int 0, .ref (b 38), .int 0, .int 0, .ref (b 39), .ref (b 40), .ref (b 41), .ref (b 42), .int 0])), (b 1, .inl (cy 0, 8, .inl (fun _ => 0)))]) [0, 1] (by decide) rfl
          have hFc := va_free (wc := [(b 0, .inr (12, [.int 0, .int 0, .ref (b 1), .ref (b 2), .ref (b 3), .ref (b 4), .int 0, .ref (b 5), .ref (b 6), .int 0, .int 0, .int 0, .int (-1), .int 0, .ref (b 7), .ref (b 20), .int 0, .ref (b 21), .ref (b 22), .int 0, .int 0, .ref (b 23), .int 0, .int 0, .int 0, .int 0, .ref (b 24), .ref (b 25), .ref (b 26), .int 0, .ref (b 27), .int 0, .ref (b 28), .ref (b 29), .ref (b 30), .ref (b 31), .ref (b 32), .ref (b 33), .ref (b 34), .int 0, .int 0, .int 0, .int 0, .int 0, .int 0, .ref (b 35), .ref (b 36), .ref (b 37), .int 0, .int 0, .int 0, .ref (b 38), .int 0, .int 0, .ref (b 39), .ref (b 40), .ref (b 41), .ref (b 42), .int 0])), (b 1, .inl (cy 0, 8, .inl (fun _ => 0)))]) hD hS hA [0, 1] rfl
          refine va_calli (va_runV (As := [.int (-2)]) (rest := []) ⟨hx, hb, hml, hown, hts⟩ (c_X12_refuse_2 l dC dI cy b _ 0 (-1) 0 0 0 0 0 0 0) (cwV 1 hts g_X12_call_X12_refuse_118 rfl rfl rfl (by decide +kernel) ⟨Nat.le_of_ble_eq_true rfl, Nat.le_of_ble_eq_true rfl⟩) (pv_ps hC hPc hDc (ci := 12) (q0 := 0) rfl rfl) rfl rfl hl.1 rfl (lv_room (Nat.le_of_ble_eq_true rfl)) dX12_call_45 ⟨Nat.le_of_ble_eq_true rfl, Nat.le_of_ble_eq_true rfl⟩) hS (fun q _ h => hFc q h) hFc (fun r_ u t_ H1 locs ht hvm hw hB hz1 hk1 hS => ?_)
          obtain ⟨hP, hD⟩ := va_join (wr := []) (w1 := []) hP hD [0, 1] [] rfl rfl (by decide) (by decide) hk1 hFc va_P0 va_D0
          generalize H1 = H at hP hS ⊢
          have hP : va_P (dC, dI) vwCl ([]) H := hP
          have hD : va_D A ([]) := hD
          subst hw
          exact W.iret (v := (-2)) hx hb hr (fun t ht hW => ⟨⟨(-2), (), rfl, Or.inr (Or.inr (Or.inr (Or.inr (Or.inr (Or.inr (Or.inl (⟨c4_, c5_, c9_, c10_, c14_, c15_, c16_, rfl⟩))))))), trivial⟩, hS.F ht⟩) hS.2.2 dX12_call_48
        · skip
          refine lv_if_ne (tgt := 49) hx hb dX12_call_39 (by decide) (fun c9_ => absurd (by decide) c9_) (fun _ => ?_)
          refine lv_aload_n hx hb dX12_call_42 rfl (lv_at hl 0 rfl) ?_
          refine lv_bipush (v := (-2)) hx hb dX12_call_43 (by decide) ?_
          have hPc : va_P (dC, dI) vwCl ([(b 0, .inr (12, [.int 0, .int 0, .ref (b 1), .ref (b 2), .ref (b 3), .ref (b 4), .int 0, .ref (b 5), .ref (b 6), .int 0, .int 0, .int 0, .int (-1), .int 0, .ref (b 7), .ref (b 20), .int 0, .ref (b 21), .ref (b 22), .int 0, .int 0, .ref (b 23), .int 0, .int 0, .int 0, .int 0, .ref (b 24), .ref (b 25), .ref (b 26), .int 0, .ref (b 27), .int 0, .ref (b 28), .ref (b 29), .ref (b 30), .ref (b 31), .ref (b 32), .ref (b 33), .ref (b 34), .int 0, .int 0, .int 0, .int 0, .int 0, .int 0, .ref (b 35), .ref (b 36), .ref (b 37), .int 0, .int 0, .int 0, .ref (b 38), .int 0, .int 0, .ref (b 39), .ref (b 40), .ref (b 41), .ref (b 42), .int 0])), (b 1, .inl (cy 0, 8, .inl (fun _ => 0)))]) _ := hP.sub [0, 1] rfl
          have hDc := hD.sub (ws' := [(b 0, .inr (12, [.int 0, .int 0, .ref (b 1), .ref (b 2), .ref (b 3), .ref (b 4), .int 0, .ref (b 5), .ref (b 6), .int 0, .int 0, .int 0, .int (-1), .int 0, .ref (b 7), .ref (b 20), .int 0, .ref (b 21), .ref (b 22), .int 0, .int 0, .ref (b 23), .int 0, .int 0, .int 0, .int 0, .ref (b 24), .ref (b 25), .ref (b 26), .int 0, .ref (b 27), .int 0, .ref (b 28), .ref (b 29), .ref (b 30), .ref (b 31), .ref (b 32), .ref (b 33), .ref (b 34), .int 0, .int 0, .int 0, .int 0, .int 0, .int 0, .ref (b 35), .ref (b 36), .ref (b 37), .int 0, .int 0, .int 0, .ref (b 38), .int 0, .int 0, .ref (b 39), .ref (b 40), .ref (b 41), .ref (b 42), .int 0])), (b 1, .inl (cy 0, 8, .inl (fun _ => 0)))]) [0, 1] (by decide) rfl
          have hFc := va_free (wc := [(b 0, .inr (12, [.int 0, .int 0, .ref (b 1), .ref (b 2), .ref (b 3), .ref (b 4), .int 0, .ref (b 5), .ref (b 6), .int 0, .int 0, .int 0, .int (-1), .int 0, .ref (b 7), .ref (b 20), .int 0, .ref (b 21), .ref (b 22), .int 0, .int 0, .ref (b 23), .int 0, .int 0, .int 0, .int 0, .ref (b 24), .ref (b 25), .ref (b 26), .int 0, .ref (b 27), .int 0, .ref (b 28), .ref (b 29), .ref (b 30), .ref (b 31), .ref (b 32), .ref (b 33), .ref (b 34), .int 0, .int 0, .int 0, .int 0, .int 0, .int 0, .ref (b 35), .ref (b 36), .ref (b 37), .int 0, .int 0, .int 0, .ref (b 38), .int 0, .int 0, .ref (b 39), .ref (b 40), .ref (b 41), .ref (b 42), .int 0])), (b 1, .inl (cy 0, 8, .inl (fun _ => 0)))]) hD hS hA [0, 1] rfl
          refine va_calli (va_runV (As := [.int (-2)]) (rest := []) ⟨hx, hb, hml, hown, hts⟩ (c_X12_refuse_2 l dC dI cy b _ 0 (-1) 0 0 0 0 0 0 0) (cwV 1 hts g_X12_call_X12_refuse_118 rfl rfl rfl (by decide +kernel) ⟨Nat.le_of_ble_eq_true rfl, Nat.le_of_ble_eq_true rfl⟩) (pv_ps hC hPc hDc (ci := 12) (q0 := 0) rfl rfl) rfl rfl hl.1 rfl (lv_room (Nat.le_of_ble_eq_true rfl)) dX12_call_45 ⟨Nat.le_of_ble_eq_true rfl, Nat.le_of_ble_eq_true rfl⟩) hS (fun q _ h => hFc q h) hFc (fun r_ u t_ H1 locs ht hvm hw hB hz1 hk1 hS => ?_)
          obtain ⟨hP, hD⟩ := va_join (wr := []) (w1 := []) hP hD [0, 1] [] rfl rfl (by decide) (by decide) hk1 hFc va_P0 va_D0
          generalize H1 = H at hP hS ⊢
          have hP : va_P (dC, dI) vwCl ([]) H := hP
          have hD : va_D A ([]) := hD
          subst hw
          exact W.iret (v := (-2)) hx hb hr (fun t ht hW => ⟨⟨(-2), (), rfl, Or.inr (Or.inr (Or.inr (Or.inr (Or.inr (Or.inr (Or.inr (Or.inl (⟨c4_, c5_, c9_, c10_, c14_, c15_, c17_, c18_, rfl⟩)))))))), trivial⟩, hS.F ht⟩) hS.2.2 dX12_call_48
        · skip
          subst c19_
          refine lv_if_ne (tgt := 49) hx hb dX12_call_39 (by decide) (fun c9_ => absurd (by decide) c9_) (fun _ => ?_)
          refine lv_aload_n hx hb dX12_call_42 rfl (lv_at hl 0 rfl) ?_
          refine lv_bipush (v := (-2)) hx hb dX12_call_43 (by decide) ?_
          have hPc : va_P (dC, dI) vwCl ([(b 0, .inr (12, [.int 0, .int 0, .ref (b 1), .ref (b 2), .ref (b 3), .ref (b 4), .int 0, .ref (b 5), .ref (b 6), .int 0, .int 0, .int 0, .int (-1), .int 0, .ref (b 7), .ref (b 20), .int 0, .ref (b 21), .ref (b 22), .int 0, .int 0, .ref (b 23), .int 0, .int 0, .int 0, .int 0, .ref (b 24), .ref (b 25), .ref (b 26), .int 0, .ref (b 27), .int 0, .ref (b 28), .ref (b 29), .ref (b 30), .ref (b 31), .ref (b 32), .ref (b 33), .ref (b 34), .int 0, .int 0, .int 0, .int 0, .int 0, .int 0, .ref (b 35), .ref (b 36), .ref (b 37), .int 0, .int 0, .int 0, .ref (b 38), .int 0, .int 0, .ref (b 39), .ref (b 40), .ref (b 41), .ref (b 42), .int 0])), (b 1, .inl (cy 0, 8, .inl (fun _ => 0)))]) _ := hP.sub [0, 1] rfl
          have hDc := hD.sub (ws' := [(b 0, .inr (12, [.int 0, .int 0, .ref (b 1), .ref (b 2), .ref (b 3), .ref (b 4), .int 0, .ref (b 5), .ref (b 6), .int 0, .int 0, .int 0, .int (-1), .int 0, .ref (b 7), .ref (b 20), .int 0, .ref (b 21), .ref (b 22), .int 0, .int 0, .ref (b 23), .int 0, .int 0, .int 0, .int 0, .ref (b 24), .ref (b 25), .ref (b 26), .int 0, .ref (b 27), .int 0, .ref (b 28), .ref (b 29), .ref (b 30), .ref (b 31), .ref (b 32), .ref (b 33), .ref (b 34), .int 0, .int 0, .int 0, .int 0, .int 0, .int 0, .ref (b 35), .ref (b 36), .ref (b 37), .int 0, .int 0, .int 0, .ref (b 38), .int 0, .int 0, .ref (b 39), .ref (b 40), .ref (b 41), .ref (b 42), .int 0])), (b 1, .inl (cy 0, 8, .inl (fun _ => 0)))]) [0, 1] (by decide) rfl
          have hFc := va_free (wc := [(b 0, .inr (12, [.int 0, .int 0, .ref (b 1), .ref (b 2), .ref (b 3), .ref (b 4), .int 0, .ref (b 5), .ref (b 6), .int 0, .int 0, .int 0, .int (-1), .int 0, .ref (b 7), .ref (b 20), .int 0, .ref (b 21), .ref (b 22), .int 0, .int 0, .ref (b 23), .int 0, .int 0, .int 0, .int 0, .ref (b 24), .ref (b 25), .ref (b 26), .int 0, .ref (b 27), .int 0, .ref (b 28), .ref (b 29), .ref (b 30), .ref (b 31), .ref (b 32), .ref (b 33), .ref (b 34), .int 0, .int 0, .int 0, .int 0, .int 0, .int 0, .ref (b 35), .ref (b 36), .ref (b 37), .int 0, .int 0, .int 0, .ref (b 38), .int 0, .int 0, .ref (b 39), .ref (b 40), .ref (b 41), .ref (b 42), .int 0])), (b 1, .inl (cy 0, 8, .inl (fun _ => 0)))]) hD hS hA [0, 1] rfl
          refine va_calli (va_runV (As := [.int (-2)]) (rest := []) ⟨hx, hb, hml, hown, hts⟩ (c_X12_refuse_2 l dC dI cy b _ 0 (-1) 0 0 0 0 0 0 0) (cwV 1 hts g_X12_call_X12_refuse_118 rfl rfl rfl (by decide +kernel) ⟨Nat.le_of_ble_eq_true rfl, Nat.le_of_ble_eq_true rfl⟩) (pv_ps hC hPc hDc (ci := 12) (q0 := 0) rfl rfl) rfl rfl hl.1 rfl (lv_room (Nat.le_of_ble_eq_true rfl)) dX12_call_45 ⟨Nat.le_of_ble_eq_true rfl, Nat.le_of_ble_eq_true rfl⟩) hS (fun q _ h => hFc q h) hFc (fun r_ u t_ H1 locs ht hvm hw hB hz1 hk1 hS => ?_)
          obtain ⟨hP, hD⟩ := va_join (wr := []) (w1 := []) hP hD [0, 1] [] rfl rfl (by decide) (by decide) hk1 hFc va_P0 va_D0
          generalize H1 = H at hP hS ⊢
          have hP : va_P (dC, dI) vwCl ([]) H := hP
          have hD : va_D A ([]) := hD
          subst hw
          exact W.iret (v := (-2)) hx hb hr (fun t ht hW => ⟨⟨(-2), (), rfl, Or.inr (Or.inr (Or.inr (Or.inr (Or.inr (Or.inr (Or.inr (Or.inr (⟨c4_, c5_, c9_, c10_, c14_, c15_, rfl, rfl⟩)))))))), trivial⟩, hS.F ht⟩) hS.2.2 dX12_call_48
        · skip
          exact absurd c22_ (by decide)

theorem dX12_store_0 : decode cX12_store 0 = .ok (.aload_n 0, 1) := by decide +kernel
theorem dX12_store_1 : decode cX12_store 1 = .ok (.iconst 0, 1) := by decide +kernel
theorem dX12_store_2 : decode cX12_store 2 = .ok (.putfield 105, 3) := by decide +kernel
theorem dX12_store_5 : decode cX12_store 5 = .ok (.iload_n 2, 1) := by decide +kernel
theorem dX12_store_6 : decode cX12_store 6 = .ok (.invokestatic 416, 3) := by decide +kernel
theorem dX12_store_9 : decode cX12_store 9 = .ok (.ifCond .ne 9, 3) := by decide +kernel
theorem dX12_store_12 : decode cX12_store 12 = .ok (.aload_n 0, 1) := by decide +kernel
theorem dX12_store_13 : decode cX12_store 13 = .ok (.iconst (-1), 1) := by decide +kernel
theorem dX12_store_14 : decode cX12_store 14 = .ok (.invokevirtual 118, 3) := by decide +kernel
theorem dX12_store_17 : decode cX12_store 17 = .ok (.ireturn, 1) := by decide +kernel
theorem dX12_store_18 : decode cX12_store 18 = .ok (.aload_n 0, 1) := by decide +kernel
theorem dX12_store_19 : decode cX12_store 19 = .ok (.iload_n 1, 1) := by decide +kernel
theorem dX12_store_20 : decode cX12_store 20 = .ok (.iconst 4, 1) := by decide +kernel
theorem dX12_store_21 : decode cX12_store 21 = .ok (.invokevirtual 143, 3) := by decide +kernel
theorem dX12_store_24 : decode cX12_store 24 = .ok (.ifCond .ne 20, 3) := by decide +kernel
theorem dX12_store_27 : decode cX12_store 27 = .ok (.aload_n 0, 1) := by decide +kernel
theorem dX12_store_28 : decode cX12_store 28 = .ok (.iload_n 1, 1) := by decide +kernel
theorem dX12_store_29 : decode cX12_store 29 = .ok (.bipush 6, 2) := by decide +kernel
theorem dX12_store_31 : decode cX12_store 31 = .ok (.invokevirtual 143, 3) := by decide +kernel
theorem dX12_store_34 : decode cX12_store 34 = .ok (.ifCond .ne 10, 3) := by decide +kernel
theorem dX12_store_37 : decode cX12_store 37 = .ok (.aload_n 0, 1) := by decide +kernel
theorem dX12_store_38 : decode cX12_store 38 = .ok (.bipush (-2), 2) := by decide +kernel
theorem dX12_store_40 : decode cX12_store 40 = .ok (.invokevirtual 118, 3) := by decide +kernel
theorem dX12_store_43 : decode cX12_store 43 = .ok (.ireturn, 1) := by decide +kernel
def v_X12_store : List Cond := .code yX12_store cX12_store 4 (some .int) :: ([.fieldLink RX12 105 "RestBoardModel" "thrown" "I", .methodLink RX12 416 yX12_isValue, .static yX12_isValue, .initialized RX12, .code yX12_isValue cX12_isValue 1 (some .boolean), .constant RX12 415 (65536), .methodLink RX12 118 yX12_refuse, .instanceMethod yX12_refuse, .selects RX12 yX12_refuse yX12_refuse, .code yX12_refuse cX12_refuse 2 (some .int), .fieldLink RX12 108 "RestBoardModel" "status" "I", .fieldLink RX12 7 "RestBoardModel" "refusals" "[I", .methodLink RX12 143 yX12_isOf, .instanceMethod yX12_isOf, .selects RX12 yX12_isOf yX12_isOf, .code yX12_isOf cX12_isOf 3 (some .boolean), .methodLink RX12 132 yX12_isNode, .instanceMethod yX12_isNode, .selects RX12 yX12_isNode yX12_isNode, .code yX12_isNode cX12_isNode 2 (some .boolean), .fieldLink RX12 13 "RestBoardModel" "row" "[I", .methodLink RX12 128 yX12_in, .static yX12_in, .code yX12_in cX12_in 6 (some .boolean), .methodLink RX12 136 yX12_kind, .instanceMethod yX12_kind, .selects RX12 yX12_kind yX12_kind, .code yX12_kind cX12_kind 2 (some .int), .methodLink RX12 125 yX12_at, .static yX12_at, .code yX12_at cX12_at 1 (some .int)] ++ wsX120)
theorem m_X12_store_0 : (.fieldLink RX12 105 "RestBoardModel" "thrown" "I" : Cond) ∈ v_X12_store := List.mem_of_getElem? (i := 1) (by decide +kernel)
theorem i_X12_store_X12 : ∀ w ∈ u_ws RX12 TX12 59, w ∈ v_X12_store := fun w h => List.mem_cons_of_mem _ (List.mem_append_right _ h)
set_option maxRecDepth 100000 in
theorem gg_X12_store_X12_isValue_416 : GoodIn v_X12_store v_X12_isValue := goodIn_r _ [5, 6] (by decide +kernel) (by decide +kernel)
set_option maxRecDepth 100000 in
theorem g_X12_store_X12_isValue_416 : GoodIn v_X12_store (va_wsS RX12 416 yX12_isValue v_X12_isValue) := goodIn_app (goodIn_r _ [2, 3, 4] (by decide +kernel) (by decide +kernel)) gg_X12_store_X12_isValue_416
set_option maxRecDepth 100000 in
theorem gg_X12_store_X12_refuse_118 : GoodIn v_X12_store v_X12_refuse := goodIn_r _ [10, 11, 12, 32, 33, 34, 35, 36, 37, 38, 39, 40, 41, 42, 43, 44, 45, 46, 47, 48, 49, 50, 51, 52, 53, 54, 55, 56, 57, 58, 59, 60, 61, 62, 63, 64, 65, 66, 67, 68, 69, 70, 71, 72, 73, 74, 75, 76, 77, 78, 79, 80, 81, 82, 83, 84, 85, 86, 87, 88, 89, 90] (by decide +kernel) (by decide +kernel)
set_option maxRecDepth 100000 in
theorem g_X12_store_X12_refuse_118 : GoodIn v_X12_store (wsV RX12 118 RX12 yX12_refuse v_X12_refuse) := goodIn_app (goodIn_r _ [7, 8, 9, 4] (by decide +kernel) (by decide +kernel)) gg_X12_store_X12_refuse_118
set_option maxRecDepth 100000 in
theorem gg_X12_store_X12_isOf_143 : GoodIn v_X12_store v_X12_isOf := goodIn_r _ [16, 17, 18, 19, 4, 20, 21, 22, 23, 24, 25, 26, 27, 28, 29, 30, 31, 32, 33, 34, 35, 36, 37, 38, 39, 40, 41, 42, 43, 44, 45, 46, 47, 48, 49, 50, 51, 52, 53, 54, 55, 56, 57, 58, 59, 60, 61, 62, 63, 64, 65, 66, 67, 68, 69, 70, 71, 72, 73, 74, 75, 76, 77, 78, 79, 80, 81, 82, 83, 84, 85, 86, 87, 88, 89, 90] (by decide +kernel) (by decide +kernel)
set_option maxRecDepth 100000 in
theorem g_X12_store_X12_isOf_143 : GoodIn v_X12_store (wsV RX12 143 RX12 yX12_isOf v_X12_isOf) := goodIn_app (goodIn_r _ [13, 14, 15, 4] (by decide +kernel) (by decide +kernel)) gg_X12_store_X12_isOf_143
set_option maxHeartbeats 4000000 in
set_option maxRecDepth 100000 in
theorem c_X12_store (l : Launch) (dC : Nat → ClassId) (dI : Nat → Nat → Nat) (cy : Nat → ClassId) (b : Nat → Nat) (sz : Nat) (p0 p1 : Int32) : Met l yX12_store v_X12_store ({ frames := 3, cells := 0, slots := 0, locals := 68 }) (va_Pc [.ref (b 0), .int p0, .int p1] (ps dC dI cy (mw b cy) sz)) (va_Qi (fun (r : Int32) (_ : Unit) => ((p1 < 0) ∧ r = (-1)) ∨ ((¬ p1 < 0) ∧ ((65536 : Int32) ≤ p1) ∧ r = (-1)) ∨ ((¬ p1 < 0) ∧ (¬ (65536 : Int32) ≤ p1) ∧ (p0 < 0) ∧ r = (-2)) ∨ ((¬ p1 < 0) ∧ (¬ (65536 : Int32) ≤ p1) ∧ (¬ p0 < 0) ∧ ((0 : Int32) < p0) ∧ r = (-2)) ∨ ((¬ p1 < 0) ∧ (¬ (65536 : Int32) ≤ p1) ∧ (p0 = 0) ∧ r = (-2))) (fun _ _ => True) (va_A (mw b cy) sz)) 0 0 (va_A (mw b cy) sz) := by
  refine Met.ofW (cc := cX12_store) (maxL := 4) (ret := (some .int)) (by decide) rfl ?_
  intro p e s m args below meth c s₁ B hml hv
  obtain ⟨rfl, hsz, hP, hC, hD0⟩ := hv
  have hK := hC.1
  have hx := B.exec
  have hb := B.bytes
  have hr := B.returns
  have hts := atoms_spec (ws := v_X12_store) B.pre
  have hown : s.vm.findClass RX12 = some m.cls := findClass_of_methodNamed B.named
  have hlocks := B.notSynchronized
  subst hsz
  have hD := hD0.self (sz := s.heap.size)
  generalize hAe : va_A (mw b cy) s.heap.size = A at hD ⊢
  have hA : ∀ q : Nat, s.heap.size ≤ q → A q := fun q h => by rw [← hAe]; exact Or.inr h
  have hS : va_S A s.heap s.heap [] := va_S.rf
  have hl := lv_entry ([.ref (b 0), .int p0, .int p1]) (n := 4) (Nat.le_of_ble_eq_true rfl)
  rw [lg_entry_eq]
  generalize (lg_sl ([.ref (b 0), .int p0, .int p1]) ++ List.replicate (4 - (lg_sl ([.ref (b 0), .int p0, .int p1])).length) Slot.unset).toArray = ls at hl ⊢
  have hl : lv_has ls 4 [(0, .ref (b 0)), (1, .int p0), (2, .int p1)] := hl
  refine lv_aload_n hx hb dX12_store_0 rfl (lv_at hl 0 rfl) ?_
  refine lv_iconst (v := 0) hx hb dX12_store_1 (by decide) ?_
  refine va_put (D := (dC, dI)) (ci := 12) (v := .int 0) (ty := .int) (C := RX12) (T := TX12) (N := 59) hx hb hts i_X12_store_X12 tyX12 tyX12_ok nmX12 hown hK hP hD hS 0 rfl rfl 0 (by decide) (hts _ m_X12_store_0) (fun _ h9 => h9) rfl (by decide +kernel) rfl rfl (Nat.le_of_ble_eq_true rfl) dX12_store_2 (fun H locs hP hD hS => ?_)
  have hP : va_P (dC, dI) vwCl (mw b cy) H := hP
  have hD : va_D A (mw b cy) := hD
  refine lv_iload_n hx hb dX12_store_5 rfl (lv_at hl 2 rfl) ?_
  refine tk_pi (va_runS (As := [.int p1]) (rest := []) ⟨hx, hb, hml, hown, hts⟩ (c_X12_isValue l dC dI cy  p1) (va_cwS 1 hts g_X12_store_X12_isValue_416 rfl rfl rfl (by decide +kernel) ⟨Nat.le_of_ble_eq_true rfl, Nat.le_of_ble_eq_true rfl⟩) (pS_pp hC va_P0) rfl rfl hl.1 rfl (lv_room (Nat.le_of_ble_eq_true rfl)) dX12_store_6 ⟨Nat.le_of_ble_eq_true rfl, Nat.le_of_ble_eq_true rfl⟩) hP hS (fun r_ H locs hw hP hS => ?_)
  rcases hw with ⟨c1_, rfl⟩ | ⟨c2_, c3_, rfl⟩ | ⟨c4_, c5_, rfl⟩
  · skip
    refine lv_if_ne (tgt := 18) hx hb dX12_store_9 (by decide) (fun c9_ => absurd (by decide) c9_) (fun _ => ?_)
    refine lv_aload_n hx hb dX12_store_12 rfl (lv_at hl 0 rfl) ?_
    refine lv_iconst (v := (-1)) hx hb dX12_store_13 (by decide) ?_
    have hPc : va_P (dC, dI) vwCl ([(b 0, .inr (12, [.int 0, .int 0, .ref (b 1), .ref (b 2), .ref (b 3), .ref (b 4), .int 0, .ref (b 5), .ref (b 6), .int 0, .int 0, .int 0, .int (-1), .int 0, .ref (b 7), .ref (b 20), .int 0, .ref (b 21), .ref (b 22), .int 0, .int 0, .ref (b 23), .int 0, .int 0, .int 0, .int 0, .ref (b 24), .ref (b 25), .ref (b 26), .int 0, .ref (b 27), .int 0, .ref (b 28), .ref (b 29), .ref (b 30), .ref (b 31), .ref (b 32), .ref (b 33), .ref (b 34), .int 0, .int 0, .int 0, .int 0, .int 0, .int 0, .ref (b 35), .ref (b 36), .ref (b 37), .int 0, .int 0, .int 0, .ref (b 38), .int 0, .int 0, .ref (b 39), .ref (b 40), .ref (b 41), .ref (b 42), .int 0])), (b 1, .inl (cy 0, 8, .inl (fun _ => 0)))]) _ := hP.sub [0, 1] rfl
    have hDc := hD.sub (ws' := [(b 0, .inr (12, [.int 0, .int 0, .ref (b 1), .ref (b 2), .ref (b 3), .ref (b 4), .int 0, .ref (b 5), .ref (b 6), .int 0, .int 0, .int 0, .int (-1), .int 0, .ref (b 7), .ref (b 20), .int 0, .ref (b 21), .ref (b 22), .int 0, .int 0, .ref (b 23), .int 0, .int 0, .int 0, .int 0, .ref (b 24), .ref (b 25), .ref (b 26), .int 0, .ref (b 27), .int 0, .ref (b 28), .ref (b 29), .ref (b 30), .ref (b 31), .ref (b 32), .ref (b 33), .ref (b 34), .int 0, .int 0, .int 0, .int 0, .int 0, .int 0, .ref (b 35), .ref (b 36), .ref (b 37), .int 0, .int 0, .int 0, .ref (b 38), .int 0, .int 0, .ref (b 39), .ref (b 40), .ref (b 41), .ref (b 42), .int 0])), (b 1, .inl (cy 0, 8, .inl (fun _ => 0)))]) [0, 1] (by decide) rfl
    have hFc := va_free (wc := [(b 0, .inr (12, [.int 0, .int 0, .ref (b 1), .ref (b 2), .ref (b 3), .ref (b 4), .int 0, .ref (b 5), .ref (b 6), .int 0, .int 0, .int 0, .int (-1), .int 0, .ref (b 7), .ref (b 20), .int 0, .ref (b 21), .ref (b 22), .int 0, .int 0, .ref (b 23), .int 0, .int 0, .int 0, .int 0, .ref (b 24), .ref (b 25), .ref (b 26), .int 0, .ref (b 27), .int 0, .ref (b 28), .ref (b 29), .ref (b 30), .ref (b 31), .ref (b 32), .ref (b 33), .ref (b 34), .int 0, .int 0, .int 0, .int 0, .int 0, .int 0, .ref (b 35), .ref (b 36), .ref (b 37), .int 0, .int 0, .int 0, .ref (b 38), .int 0, .int 0, .ref (b 39), .ref (b 40), .ref (b 41), .ref (b 42), .int 0])), (b 1, .inl (cy 0, 8, .inl (fun _ => 0)))]) hD hS hA [0, 1] rfl
    refine va_calli (va_runV (As := [.int (-1)]) (rest := []) ⟨hx, hb, hml, hown, hts⟩ (c_X12_refuse_1 l dC dI cy b _ 0 (-1) 0 0 0 0 0 0 0) (cwV 1 hts g_X12_store_X12_refuse_118 rfl rfl rfl (by decide +kernel) ⟨Nat.le_of_ble_eq_true rfl, Nat.le_of_ble_eq_true rfl⟩) (pv_ps hC hPc hDc (ci := 12) (q0 := 0) rfl rfl) rfl rfl hl.1 rfl (lv_room (Nat.le_of_ble_eq_true rfl)) dX12_store_14 ⟨Nat.le_of_ble_eq_true rfl, Nat.le_of_ble_eq_true rfl⟩) hS (fun q _ h => hFc q h) hFc (fun r_ u t_ H1 locs ht hvm hw hB hz1 hk1 hS => ?_)
    obtain ⟨hP, hD⟩ := va_join (wr := []) (w1 := []) hP hD [0, 1] [] rfl rfl (by decide) (by decide) hk1 hFc va_P0 va_D0
    generalize H1 = H at hP hS ⊢
    have hP : va_P (dC, dI) vwCl ([]) H := hP
    have hD : va_D A ([]) := hD
    subst hw
    exact W.iret (v := (-1)) hx hb hr (fun t ht hW => ⟨⟨(-1), (), rfl, Or.inl (⟨c1_, rfl⟩), trivial⟩, hS.F ht⟩) hS.2.2 dX12_store_17
  · skip
    refine lv_if_ne (tgt := 18) hx hb dX12_store_9 (by decide) (fun c9_ => absurd (by decide) c9_) (fun _ => ?_)
    refine lv_aload_n hx hb dX12_store_12 rfl (lv_at hl 0 rfl) ?_
    refine lv_iconst (v := (-1)) hx hb dX12_store_13 (by decide) ?_
    have hPc : va_P (dC, dI) vwCl ([(b 0, .inr (12, [.int 0, .int 0, .ref (b 1), .ref (b 2), .ref (b 3), .ref (b 4), .int 0, .ref (b 5), .ref (b 6), .int 0, .int 0, .int 0, .int (-1), .int 0, .ref (b 7), .ref (b 20), .int 0, .ref (b 21), .ref (b 22), .int 0, .int 0, .ref (b 23), .int 0, .int 0, .int 0, .int 0, .ref (b 24), .ref (b 25), .ref (b 26), .int 0, .ref (b 27), .int 0, .ref (b 28), .ref (b 29), .ref (b 30), .ref (b 31), .ref (b 32), .ref (b 33), .ref (b 34), .int 0, .int 0, .int 0, .int 0, .int 0, .int 0, .ref (b 35), .ref (b 36), .ref (b 37), .int 0, .int 0, .int 0, .ref (b 38), .int 0, .int 0, .ref (b 39), .ref (b 40), .ref (b 41), .ref (b 42), .int 0])), (b 1, .inl (cy 0, 8, .inl (fun _ => 0)))]) _ := hP.sub [0, 1] rfl
    have hDc := hD.sub (ws' := [(b 0, .inr (12, [.int 0, .int 0, .ref (b 1), .ref (b 2), .ref (b 3), .ref (b 4), .int 0, .ref (b 5), .ref (b 6), .int 0, .int 0, .int 0, .int (-1), .int 0, .ref (b 7), .ref (b 20), .int 0, .ref (b 21), .ref (b 22), .int 0, .int 0, .ref (b 23), .int 0, .int 0, .int 0, .int 0, .ref (b 24), .ref (b 25), .ref (b 26), .int 0, .ref (b 27), .int 0, .ref (b 28), .ref (b 29), .ref (b 30), .ref (b 31), .ref (b 32), .ref (b 33), .ref (b 34), .int 0, .int 0, .int 0, .int 0, .int 0, .int 0, .ref (b 35), .ref (b 36), .ref (b 37), .int 0, .int 0, .int 0, .ref (b 38), .int 0, .int 0, .ref (b 39), .ref (b 40), .ref (b 41), .ref (b 42), .int 0])), (b 1, .inl (cy 0, 8, .inl (fun _ => 0)))]) [0, 1] (by decide) rfl
    have hFc := va_free (wc := [(b 0, .inr (12, [.int 0, .int 0, .ref (b 1), .ref (b 2), .ref (b 3), .ref (b 4), .int 0, .ref (b 5), .ref (b 6), .int 0, .int 0, .int 0, .int (-1), .int 0, .ref (b 7), .ref (b 20), .int 0, .ref (b 21), .ref (b 22), .int 0, .int 0, .ref (b 23), .int 0, .int 0, .int 0, .int 0, .ref (b 24), .ref (b 25), .ref (b 26), .int 0, .ref (b 27), .int 0, .ref (b 28), .ref (b 29), .ref (b 30), .ref (b 31), .ref (b 32), .ref (b 33), .ref (b 34), .int 0, .int 0, .int 0, .int 0, .int 0, .int 0, .ref (b 35), .ref (b 36), .ref (b 37), .int 0, .int 0, .int 0, .ref (b 38), .int 0, .int 0, .ref (b 39), .ref (b 40), .ref (b 41), .ref (b 42), .int 0])), (b 1, .inl (cy 0, 8, .inl (fun _ => 0)))]) hD hS hA [0, 1] rfl
    refine va_calli (va_runV (As := [.int (-1)]) (rest := []) ⟨hx, hb, hml, hown, hts⟩ (c_X12_refuse_1 l dC dI cy b _ 0 (-1) 0 0 0 0 0 0 0) (cwV 1 hts g_X12_store_X12_refuse_118 rfl rfl rfl (by decide +kernel) ⟨Nat.le_of_ble_eq_true rfl, Nat.le_of_ble_eq_true rfl⟩) (pv_ps hC hPc hDc (ci := 12) (q0 := 0) rfl rfl) rfl rfl hl.1 rfl (lv_room (Nat.le_of_ble_eq_true rfl)) dX12_store_14 ⟨Nat.le_of_ble_eq_true rfl, Nat.le_of_ble_eq_true rfl⟩) hS (fun q _ h => hFc q h) hFc (fun r_ u t_ H1 locs ht hvm hw hB hz1 hk1 hS => ?_)
    obtain ⟨hP, hD⟩ := va_join (wr := []) (w1 := []) hP hD [0, 1] [] rfl rfl (by decide) (by decide) hk1 hFc va_P0 va_D0
    generalize H1 = H at hP hS ⊢
    have hP : va_P (dC, dI) vwCl ([]) H := hP
    have hD : va_D A ([]) := hD
    subst hw
    exact W.iret (v := (-1)) hx hb hr (fun t ht hW => ⟨⟨(-1), (), rfl, Or.inr (Or.inl (⟨c2_, c3_, rfl⟩)), trivial⟩, hS.F ht⟩) hS.2.2 dX12_store_17
  · skip
    refine lv_if_ne (tgt := 18) hx hb dX12_store_9 (by decide) (fun _ => ?_) (fun c9_ => absurd c9_ (by decide))
    refine lv_aload_n hx hb dX12_store_18 rfl (lv_at hl 0 rfl) ?_
    refine lv_iload_n hx hb dX12_store_19 rfl (lv_at hl 1 rfl) ?_
    refine lv_iconst (v := 4) hx hb dX12_store_20 (by decide) ?_
    refine tk_pi (va_runV (As := [.int p0, .int 4]) (rest := []) ⟨hx, hb, hml, hown, hts⟩ (c_X12_isOf l dC dI cy b p0 4) (cwV 2 hts g_X12_store_X12_isOf_143 rfl rfl rfl (by decide +kernel) ⟨Nat.le_of_ble_eq_true rfl, Nat.le_of_ble_eq_true rfl⟩) (pv_pp hC hP (ci := 12) (q0 := 0) rfl rfl) rfl rfl hl.1 rfl (lv_room (Nat.le_of_ble_eq_true rfl)) dX12_store_21 ⟨Nat.le_of_ble_eq_true rfl, Nat.le_of_ble_eq_true rfl⟩) hP hS (fun r_ H locs hw hP hS => ?_)
    rcases hw with ⟨c6_, rfl⟩ | ⟨c7_, c8_, rfl⟩ | ⟨c9_, -, rfl⟩ | ⟨c11_, c12_, rfl⟩
    · skip
      refine lv_if_ne (tgt := 44) hx hb dX12_store_24 (by decide) (fun c9_ => absurd (by decide) c9_) (fun _ => ?_)
      refine lv_aload_n hx hb dX12_store_27 rfl (lv_at hl 0 rfl) ?_
      refine lv_iload_n hx hb dX12_store_28 rfl (lv_at hl 1 rfl) ?_
      refine lv_bipush (v := 6) hx hb dX12_store_29 (by decide) ?_
      refine tk_pi (va_runV (As := [.int p0, .int 6]) (rest := []) ⟨hx, hb, hml, hown, hts⟩ (c_X12_isOf l dC dI cy b p0 6) (cwV 2 hts g_X12_store_X12_isOf_143 rfl rfl rfl (by decide +kernel) ⟨Nat.le_of_ble_eq_true rfl, Nat.le_of_ble_eq_true rfl⟩) (pv_pp hC hP (ci := 12) (q0 := 0) rfl rfl) rfl rfl hl.1 rfl (lv_room (Nat.le_of_ble_eq_true rfl)) dX12_store_31 ⟨Nat.le_of_ble_eq_true rfl, Nat.le_of_ble_eq_true rfl⟩) hP hS (fun r_ H locs hw hP hS => ?_)
      rcases hw with ⟨c13_, rfl⟩ | ⟨c14_, c15_, rfl⟩ | ⟨c16_, -, rfl⟩ | ⟨c18_, c19_, rfl⟩
      · skip
        refine lv_if_ne (tgt := 44) hx hb dX12_store_34 (by decide) (fun c9_ => absurd (by decide) c9_) (fun _ => ?_)
        refine lv_aload_n hx hb dX12_store_37 rfl (lv_at hl 0 rfl) ?_
        refine lv_bipush (v := (-2)) hx hb dX12_store_38 (by decide) ?_
        have hPc : va_P (dC, dI) vwCl ([(b 0, .inr (12, [.int 0, .int 0, .ref (b 1), .ref (b 2), .ref (b 3), .ref (b 4), .int 0, .ref (b 5), .ref (b 6), .int 0, .int 0, .int 0, .int (-1), .int 0, .ref (b 7), .ref (b 20), .int 0, .ref (b 21), .ref (b 22), .int 0, .int 0, .ref (b 23), .int 0, .int 0, .int 0, .int 0, .ref (b 24), .ref (b 25), .ref (b 26), .int 0, .ref (b 27), .int 0, .ref (b 28), .ref (b 29), .ref (b 30), .ref (b 31), .ref (b 32), .ref (b 33), .ref (b 34), .int 0, .int 0, .int 0, .int 0, .int 0, .int 0, .ref (b 35), .ref (b 36), .ref (b 37), .int 0, .int 0, .int 0, .ref (b 38), .int 0, .int 0, .ref (b 39), .ref (b 40), .ref (b 41), .ref (b 42), .int 0])), (b 1, .inl (cy 0, 8, .inl (fun _ => 0)))]) _ := hP.sub [0, 1] rfl
        have hDc := hD.sub (ws' := [(b 0, .inr (12, [.int 0, .int 0, .ref (b 1), .ref (b 2), .ref (b 3), .ref (b 4), .int 0, .ref (b 5), .ref (b 6), .int 0, .int 0, .int 0, .int (-1), .int 0, .ref (b 7), .ref (b 20), .int 0, .ref (b 21), .ref (b 22), .int 0, .int 0, .ref (b 23), .int 0, .int 0, .int 0, .int 0, .ref (b 24), .ref (b 25), .ref (b 26), .int 0, .ref (b 27), .int 0, .ref (b 28), .ref (b 29), .ref (b 30), .ref (b 31), .ref (b 32), .ref (b 33), .ref (b 34), .int 0, .int 0, .int 0, .int 0, .int 0, .int 0, .ref (b 35), .ref (b 36), .ref (b 37), .int 0, .int 0, .int 0, .ref (b 38), .int 0, .int 0, .ref (b 39), .ref (b 40), .ref (b 41), .ref (b 42), .int 0])), (b 1, .inl (cy 0, 8, .inl (fun _ => 0)))]) [0, 1] (by decide) rfl
        have hFc := va_free (wc := [(b 0, .inr (12, [.int 0, .int 0, .ref (b 1), .ref (b 2), .ref (b 3), .ref (b 4), .int 0, .ref (b 5), .ref (b 6), .int 0, .int 0, .int 0, .int (-1), .int 0, .ref (b 7), .ref (b 20), .int 0, .ref (b 21), .ref (b 22), .int 0, .int 0, .ref (b 23), .int 0, .int 0, .int 0, .int 0, .ref (b 24), .ref (b 25), .ref (b 26), .int 0, .ref (b 27), .int 0, .ref (b 28), .ref (b 29), .ref (b 30), .ref (b 31), .ref (b 32), .ref (b 33), .ref (b 34), .int 0, .int 0, .int 0, .int 0, .int 0, .int 0, .ref (b 35), .ref (b 36), .ref (b 37), .int 0, .int 0, .int 0, .ref (b 38), .int 0, .int 0, .ref (b 39), .ref (b 40), .ref (b 41), .ref (b 42), .int 0])), (b 1, .inl (cy 0, 8, .inl (fun _ => 0)))]) hD hS hA [0, 1] rfl
        refine va_calli (va_runV (As := [.int (-2)]) (rest := []) ⟨hx, hb, hml, hown, hts⟩ (c_X12_refuse_2 l dC dI cy b _ 0 (-1) 0 0 0 0 0 0 0) (cwV 1 hts g_X12_store_X12_refuse_118 rfl rfl rfl (by decide +kernel) ⟨Nat.le_of_ble_eq_true rfl, Nat.le_of_ble_eq_true rfl⟩) (pv_ps hC hPc hDc (ci := 12) (q0 := 0) rfl rfl) rfl rfl hl.1 rfl (lv_room (Nat.le_of_ble_eq_true rfl)) dX12_store_40 ⟨Nat.le_of_ble_eq_true rfl, Nat.le_of_ble_eq_true rfl⟩) hS (fun q _ h => hFc q h) hFc (fun r_ u t_ H1 locs ht hvm hw hB hz1 hk1 hS => ?_)
        obtain ⟨hP, hD⟩ := va_join (wr := []) (w1 := []) hP hD [0, 1] [] rfl rfl (by decide) (by decide) hk1 hFc va_P0 va_D0
        generalize H1 = H at hP hS ⊢
        have hP : va_P (dC, dI) vwCl ([]) H := hP
        have hD : va_D A ([]) := hD
        subst hw
        exact W.iret (v := (-2)) hx hb hr (fun t ht hW => ⟨⟨(-2), (), rfl, Or.inr (Or.inr (Or.inl (⟨c4_, c5_, c6_, rfl⟩))), trivial⟩, hS.F ht⟩) hS.2.2 dX12_store_43
      · skip
        exfalso
        have z0_ := tz_lt_r c6_ (show (0 : Int32).toInt = 0 by decide)
        have z1_ := tz_nlt_r c14_ (show (0 : Int32).toInt = 0 by decide)
        omega
      · skip
        exfalso
        have z0_ := tz_lt_r c6_ (show (0 : Int32).toInt = 0 by decide)
        have z1_ := tz_eq_r c16_ (show (0 : Int32).toInt = 0 by decide)
        omega
      · skip
        exact absurd c19_ (by decide)
    · skip
      refine lv_if_ne (tgt := 44) hx hb dX12_store_24 (by decide) (fun c9_ => absurd (by decide) c9_) (fun _ => ?_)
      refine lv_aload_n hx hb dX12_store_27 rfl (lv_at hl 0 rfl) ?_
      refine lv_iload_n hx hb dX12_store_28 rfl (lv_at hl 1 rfl) ?_
      refine lv_bipush (v := 6) hx hb dX12_store_29 (by decide) ?_
      refine tk_pi (va_runV (As := [.int p0, .int 6]) (rest := []) ⟨hx, hb, hml, hown, hts⟩ (c_X12_isOf l dC dI cy b p0 6) (cwV 2 hts g_X12_store_X12_isOf_143 rfl rfl rfl (by decide +kernel) ⟨Nat.le_of_ble_eq_true rfl, Nat.le_of_ble_eq_true rfl⟩) (pv_pp hC hP (ci := 12) (q0 := 0) rfl rfl) rfl rfl hl.1 rfl (lv_room (Nat.le_of_ble_eq_true rfl)) dX12_store_31 ⟨Nat.le_of_ble_eq_true rfl, Nat.le_of_ble_eq_true rfl⟩) hP hS (fun r_ H locs hw hP hS => ?_)
      rcases hw with ⟨c20_, rfl⟩ | ⟨c21_, c22_, rfl⟩ | ⟨c23_, -, rfl⟩ | ⟨c25_, c26_, rfl⟩
      · skip
        exfalso
        have z0_ := tz_nlt_r c7_ (show (0 : Int32).toInt = 0 by decide)
        have z1_ := tz_lt_l c8_ (show (0 : Int32).toInt = 0 by decide)
        have z2_ := tz_lt_r c20_ (show (0 : Int32).toInt = 0 by decide)
        omega
      · skip
        refine lv_if_ne (tgt := 44) hx hb dX12_store_34 (by decide) (fun c9_ => absurd (by decide) c9_) (fun _ => ?_)
        refine lv_aload_n hx hb dX12_store_37 rfl (lv_at hl 0 rfl) ?_
        refine lv_bipush (v := (-2)) hx hb dX12_store_38 (by decide) ?_
        have hPc : va_P (dC, dI) vwCl ([(b 0, .inr (12, [.int 0, .int 0, .ref (b 1), .ref (b 2), .ref (b 3), .ref (b 4), .int 0, .ref (b 5), .ref (b 6), .int 0, .int 0, .int 0, .int (-1), .int 0, .ref (b 7), .ref (b 20), .int 0, .ref (b 21), .ref (b 22), .int 0, .int 0, .ref (b 23), .int 0, .int 0, .int 0, .int 0, .ref (b 24), .ref (b 25), .ref (b 26), .int 0, .ref (b 27), .int 0, .ref (b 28), .ref (b 29), .ref (b 30), .ref (b 31), .ref (b 32), .ref (b 33), .ref (b 34), .int 0, .int 0, .int 0, .int 0, .int 0, .int 0, .ref (b 35), .ref (b 36), .ref (b 37), .int 0, .int 0, .int 0, .ref (b 38), .int 0, .int 0, .ref (b 39), .ref (b 40), .ref (b 41), .ref (b 42), .int 0])), (b 1, .inl (cy 0, 8, .inl (fun _ => 0)))]) _ := hP.sub [0, 1] rfl
        have hDc := hD.sub (ws' := [(b 0, .inr (12, [.int 0, .int 0, .ref (b 1), .ref (b 2), .ref (b 3), .ref (b 4), .int 0, .ref (b 5), .ref (b 6), .int 0, .int 0, .int 0, .int (-1), .int 0, .ref (b 7), .ref (b 20), .int 0, .ref (b 21), .ref (b 22), .int 0, .int 0, .ref (b 23), .int 0, .int 0, .int 0, .int 0, .ref (b 24), .ref (b 25), .ref (b 26), .int 0, .ref (b 27), .int 0, .ref (b 28), .ref (b 29), .ref (b 30), .ref (b 31), .ref (b 32), .ref (b 33), .ref (b 34), .int 0, .int 0, .int 0, .int 0, .int 0, .int 0, .ref (b 35), .ref (b 36), .ref (b 37), .int 0, .int 0, .int 0, .ref (b 38), .int 0, .int 0, .ref (b 39), .ref (b 40), .ref (b 41), .ref (b 42), .int 0])), (b 1, .inl (cy 0, 8, .inl (fun _ => 0)))]) [0, 1] (by decide) rfl
        have hFc := va_free (wc := [(b 0, .inr (12, [.int 0, .int 0, .ref (b 1), .ref (b 2), .ref (b 3), .ref (b 4), .int 0, .ref (b 5), .ref (b 6), .int 0, .int 0, .int 0, .int (-1), .int 0, .ref (b 7), .ref (b 20), .int 0, .ref (b 21), .ref (b 22), .int 0, .int 0, .ref (b 23), .int 0, .int 0, .int 0, .int 0, .ref (b 24), .ref (b 25), .ref (b 26), .int 0, .ref (b 27), .int 0, .ref (b 28), .ref (b 29), .ref (b 30), .ref (b 31), .ref (b 32), .ref (b 33), .ref (b 34), .int 0, .int 0, .int 0, .int 0, .int 0, .int 0, .ref (b 35), .ref (b 36), .ref (b 37), .int 0, .int 0, .int 0, .ref (b 38), .int 0, .int 0, .ref (b 39), .ref (b 40), .ref (b 41), .ref (b 42), .int 0])), (b 1, .inl (cy 0, 8, .inl (fun _ => 0)))]) hD hS hA [0, 1] rfl
        refine va_calli (va_runV (As := [.int (-2)]) (rest := []) ⟨hx, hb, hml, hown, hts⟩ (c_X12_refuse_2 l dC dI cy b _ 0 (-1) 0 0 0 0 0 0 0) (cwV 1 hts g_X12_store_X12_refuse_118 rfl rfl rfl (by decide +kernel) ⟨Nat.le_of_ble_eq_true rfl, Nat.le_of_ble_eq_true rfl⟩) (pv_ps hC hPc hDc (ci := 12) (q0 := 0) rfl rfl) rfl rfl hl.1 rfl (lv_room (Nat.le_of_ble_eq_true rfl)) dX12_store_40 ⟨Nat.le_of_ble_eq_true rfl, Nat.le_of_ble_eq_true rfl⟩) hS (fun q _ h => hFc q h) hFc (fun r_ u t_ H1 locs ht hvm hw hB hz1 hk1 hS => ?_)
        obtain ⟨hP, hD⟩ := va_join (wr := []) (w1 := []) hP hD [0, 1] [] rfl rfl (by decide) (by decide) hk1 hFc va_P0 va_D0
        generalize H1 = H at hP hS ⊢
        have hP : va_P (dC, dI) vwCl ([]) H := hP
        have hD : va_D A ([]) := hD
        subst hw
        exact W.iret (v := (-2)) hx hb hr (fun t ht hW => ⟨⟨(-2), (), rfl, Or.inr (Or.inr (Or.inr (Or.inl (⟨c4_, c5_, c7_, c8_, rfl⟩)))), trivial⟩, hS.F ht⟩) hS.2.2 dX12_store_43
      · skip
        exfalso
        have z0_ := tz_nlt_r c7_ (show (0 : Int32).toInt = 0 by decide)
        have z1_ := tz_lt_l c8_ (show (0 : Int32).toInt = 0 by decide)
        have z2_ := tz_eq_r c23_ (show (0 : Int32).toInt = 0 by decide)
        omega
      · skip
        exact absurd c26_ (by decide)
    · skip
      subst c9_
      refine lv_if_ne (tgt := 44) hx hb dX12_store_24 (by decide) (fun c9_ => absurd (by decide) c9_) (fun _ => ?_)
      refine lv_aload_n hx hb dX12_store_27 rfl (lv_at hl 0 rfl) ?_
      refine lv_iload_n hx hb dX12_store_28 rfl (lv_at hl 1 rfl) ?_
      refine lv_bipush (v := 6) hx hb dX12_store_29 (by decide) ?_
      refine tk_pi (va_runV (As := [.int 0, .int 6]) (rest := []) ⟨hx, hb, hml, hown, hts⟩ (c_X12_isOf l dC dI cy b 0 6) (cwV 2 hts g_X12_store_X12_isOf_143 rfl rfl rfl (by decide +kernel) ⟨Nat.le_of_ble_eq_true rfl, Nat.le_of_ble_eq_true rfl⟩) (pv_pp hC hP (ci := 12) (q0 := 0) rfl rfl) rfl rfl hl.1 rfl (lv_room (Nat.le_of_ble_eq_true rfl)) dX12_store_31 ⟨Nat.le_of_ble_eq_true rfl, Nat.le_of_ble_eq_true rfl⟩) hP hS (fun r_ H locs hw hP hS => ?_)
      rcases hw with ⟨c27_, rfl⟩ | ⟨-, c29_, rfl⟩ | ⟨-, -, rfl⟩ | ⟨-, c33_, rfl⟩
      · skip
        exact absurd c27_ (by decide)
      · skip
        exact absurd c29_ (by decide)
      · skip
        refine lv_if_ne (tgt := 44) hx hb dX12_store_34 (by decide) (fun c9_ => absurd (by decide) c9_) (fun _ => ?_)
        refine lv_aload_n hx hb dX12_store_37 rfl (lv_at hl 0 rfl) ?_
        refine lv_bipush (v := (-2)) hx hb dX12_store_38 (by decide) ?_
        have hPc : va_P (dC, dI) vwCl ([(b 0, .inr (12, [.int 0, .int 0, .ref (b 1), .ref (b 2), .ref (b 3), .ref (b 4), .int 0, .ref (b 5), .ref (b 6), .int 0, .int 0, .int 0, .int (-1), .int 0, .ref (b 7), .ref (b 20), .int 0, .ref (b 21), .ref (b 22), .int 0, .int 0, .ref (b 23), .int 0, .int 0, .int 0, .int 0, .ref (b 24), .ref (b 25), .ref (b 26), .int 0, .ref (b 27), .int 0, .ref (b 28), .ref (b 29), .ref (b 30), .ref (b 31), .ref (b 32), .ref (b 33), .ref (b 34), .int 0, .int 0, .int 0, .int 0, .int 0, .int 0, .ref (b 35), .ref (b 36), .ref (b 37), .int 0, .int 0, .int 0, .ref (b 38), .int 0, .int 0, .ref (b 39), .ref (b 40), .ref (b 41), .ref (b 42), .int 0])), (b 1, .inl (cy 0, 8, .inl (fun _ => 0)))]) _ := hP.sub [0, 1] rfl
        have hDc := hD.sub (ws' := [(b 0, .inr (12, [.int 0, .int 0, .ref (b 1), .ref (b 2), .ref (b 3), .ref (b 4), .int 0, .ref (b 5), .ref (b 6), .int 0, .int 0, .int 0, .int (-1), .int 0, .ref (b 7), .ref (b 20), .int 0, .ref (b 21), .ref (b 22), .int 0, .int 0, .ref (b 23), .int 0, .int 0, .int 0, .int 0, .ref (b 24), .ref (b 25), .ref (b 26), .int 0, .ref (b 27), .int 0, .ref (b 28), .ref (b 29), .ref (b 30), .ref (b 31), .ref (b 32), .ref (b 33), .ref (b 34), .int 0, .int 0, .int 0, .int 0, .int 0, .int 0, .ref (b 35), .ref (b 36), .ref (b 37), .int 0, .int 0, .int 0, .ref (b 38), .int 0, .int 0, .ref (b 39), .ref (b 40), .ref (b 41), .ref (b 42), .int 0])), (b 1, .inl (cy 0, 8, .inl (fun _ => 0)))]) [0, 1] (by decide) rfl
        have hFc := va_free (wc := [(b 0, .inr (12, [.int 0, .int 0, .ref (b 1), .ref (b 2), .ref (b 3), .ref (b 4), .int 0, .ref (b 5), .ref (b 6), .int 0, .int 0, .int 0, .int (-1), .int 0, .ref (b 7), .ref (b 20), .int 0, .ref (b 21), .ref (b 22), .int 0, .int 0, .ref (b 23), .int 0, .int 0, .int 0, .int 0, .ref (b 24), .ref (b 25), .ref (b 26), .int 0, .ref (b 27), .int 0, .ref (b 28), .ref (b 29), .ref (b 30), .ref (b 31), .ref (b 32), .ref (b 33), .ref (b 34), .int 0, .int 0, .int 0, .int 0, .int 0, .int 0, .ref (b 35), .ref (b 36), .ref (b 37), .int 0, .int 0, .int 0, .ref (b 38), .int 0, .int 0, .ref (b 39), .ref (b 40), .ref (b 41), .ref (b 42), .int 0])), (b 1, .inl (cy 0, 8, .inl (fun _ => 0)))]) hD hS hA [0, 1] rfl
        refine va_calli (va_runV (As := [.int (-2)]) (rest := []) ⟨hx, hb, hml, hown, hts⟩ (c_X12_refuse_2 l dC dI cy b _ 0 (-1) 0 0 0 0 0 0 0) (cwV 1 hts g_X12_store_X12_refuse_118 rfl rfl rfl (by decide +kernel) ⟨Nat.le_of_ble_eq_true rfl, Nat.le_of_ble_eq_true rfl⟩) (pv_ps hC hPc hDc (ci := 12) (q0 := 0) rfl rfl) rfl rfl hl.1 rfl (lv_room (Nat.le_of_ble_eq_true rfl)) dX12_store_40 ⟨Nat.le_of_ble_eq_true rfl, Nat.le_of_ble_eq_true rfl⟩) hS (fun q _ h => hFc q h) hFc (fun r_ u t_ H1 locs ht hvm hw hB hz1 hk1 hS => ?_)
        obtain ⟨hP, hD⟩ := va_join (wr := []) (w1 := []) hP hD [0, 1] [] rfl rfl (by decide) (by decide) hk1 hFc va_P0 va_D0
        generalize H1 = H at hP hS ⊢
        have hP : va_P (dC, dI) vwCl ([]) H := hP
        have hD : va_D A ([]) := hD
        subst hw
        exact W.iret (v := (-2)) hx hb hr (fun t ht hW => ⟨⟨(-2), (), rfl, Or.inr (Or.inr (Or.inr (Or.inr (⟨c4_, c5_, rfl, rfl⟩)))), trivial⟩, hS.F ht⟩) hS.2.2 dX12_store_43
      · skip
        exact absurd c33_ (by decide)
    · skip
      exact absurd c12_ (by decide)

theorem dX12_power_0 : decode cX12_power 0 = .ok (.aload_n 0, 1) := by decide +kernel
theorem dX12_power_1 : decode cX12_power 1 = .ok (.iconst 0, 1) := by decide +kernel
theorem dX12_power_2 : decode cX12_power 2 = .ok (.putfield 105, 3) := by decide +kernel
theorem dX12_power_5 : decode cX12_power 5 = .ok (.iload_n 2, 1) := by decide +kernel
theorem dX12_power_6 : decode cX12_power 6 = .ok (.i2l, 1) := by decide +kernel
theorem dX12_power_7 : decode cX12_power 7 = .ok (.lconst 0, 1) := by decide +kernel
theorem dX12_power_8 : decode cX12_power 8 = .ok (.ldc2_w 442, 3) := by decide +kernel
theorem dX12_power_11 : decode cX12_power 11 = .ok (.invokestatic 128, 3) := by decide +kernel
theorem dX12_power_14 : decode cX12_power 14 = .ok (.ifCond .ne 9, 3) := by decide +kernel
theorem dX12_power_17 : decode cX12_power 17 = .ok (.aload_n 0, 1) := by decide +kernel
theorem dX12_power_18 : decode cX12_power 18 = .ok (.iconst (-1), 1) := by decide +kernel
theorem dX12_power_19 : decode cX12_power 19 = .ok (.invokevirtual 118, 3) := by decide +kernel
theorem dX12_power_22 : decode cX12_power 22 = .ok (.ireturn, 1) := by decide +kernel
theorem dX12_power_23 : decode cX12_power 23 = .ok (.aload_n 0, 1) := by decide +kernel
theorem dX12_power_24 : decode cX12_power 24 = .ok (.iload_n 1, 1) := by decide +kernel
theorem dX12_power_25 : decode cX12_power 25 = .ok (.invokevirtual 444, 3) := by decide +kernel
theorem dX12_power_28 : decode cX12_power 28 = .ok (.ifCond .ne 10, 3) := by decide +kernel
theorem dX12_power_31 : decode cX12_power 31 = .ok (.aload_n 0, 1) := by decide +kernel
theorem dX12_power_32 : decode cX12_power 32 = .ok (.bipush (-2), 2) := by decide +kernel
theorem dX12_power_34 : decode cX12_power 34 = .ok (.invokevirtual 118, 3) := by decide +kernel
theorem dX12_power_37 : decode cX12_power 37 = .ok (.ireturn, 1) := by decide +kernel
def v_X12_power : List Cond := .code yX12_power cX12_power 5 (some .int) :: ([.fieldLink RX12 105 "RestBoardModel" "thrown" "I", .constantLong RX12 442 (3), .methodLink RX12 128 yX12_in, .static yX12_in, .initialized RX12, .code yX12_in cX12_in 6 (some .boolean), .methodLink RX12 118 yX12_refuse, .instanceMethod yX12_refuse, .selects RX12 yX12_refuse yX12_refuse, .code yX12_refuse cX12_refuse 2 (some .int), .fieldLink RX12 108 "RestBoardModel" "status" "I", .fieldLink RX12 7 "RestBoardModel" "refusals" "[I", .methodLink RX12 444 yX12_isDevice, .instanceMethod yX12_isDevice, .selects RX12 yX12_isDevice yX12_isDevice, .code yX12_isDevice cX12_isDevice 2 (some .boolean), .methodLink RX12 143 yX12_isOf, .instanceMethod yX12_isOf, .selects RX12 yX12_isOf yX12_isOf, .code yX12_isOf cX12_isOf 3 (some .boolean), .methodLink RX12 132 yX12_isNode, .instanceMethod yX12_isNode, .selects RX12 yX12_isNode yX12_isNode, .code yX12_isNode cX12_isNode 2 (some .boolean), .fieldLink RX12 13 "RestBoardModel" "row" "[I", .methodLink RX12 136 yX12_kind, .instanceMethod yX12_kind, .selects RX12 yX12_kind yX12_kind, .code yX12_kind cX12_kind 2 (some .int), .methodLink RX12 125 yX12_at, .static yX12_at, .code yX12_at cX12_at 1 (some .int)] ++ wsX120)
theorem m_X12_power_0 : (.fieldLink RX12 105 "RestBoardModel" "thrown" "I" : Cond) ∈ v_X12_power := List.mem_of_getElem? (i := 1) (by decide +kernel)
theorem m_X12_power_1 : (.constantLong RX12 442 (3) : Cond) ∈ v_X12_power := List.mem_of_getElem? (i := 2) (by decide +kernel)
theorem i_X12_power_X12 : ∀ w ∈ u_ws RX12 TX12 59, w ∈ v_X12_power := fun w h => List.mem_cons_of_mem _ (List.mem_append_right _ h)
set_option maxRecDepth 100000 in
theorem gg_X12_power_X12_in_128 : GoodIn v_X12_power v_X12_in := goodIn_r _ [6] (by decide +kernel) (by decide +kernel)
set_option maxRecDepth 100000 in
theorem g_X12_power_X12_in_128 : GoodIn v_X12_power (va_wsS RX12 128 yX12_in v_X12_in) := goodIn_app (goodIn_r _ [3, 4, 5] (by decide +kernel) (by decide +kernel)) gg_X12_power_X12_in_128
set_option maxRecDepth 100000 in
theorem gg_X12_power_X12_refuse_118 : GoodIn v_X12_power v_X12_refuse := goodIn_r _ [10, 11, 12, 33, 34, 35, 36, 37, 38, 39, 40, 41, 42, 43, 44, 45, 46, 47, 48, 49, 50, 51, 52, 53, 54, 55, 56, 57, 58, 59, 60, 61, 62, 63, 64, 65, 66, 67, 68, 69, 70, 71, 72, 73, 74, 75, 76, 77, 78, 79, 80, 81, 82, 83, 84, 85, 86, 87, 88, 89, 90, 91] (by decide +kernel) (by decide +kernel)
set_option maxRecDepth 100000 in
theorem g_X12_power_X12_refuse_118 : GoodIn v_X12_power (wsV RX12 118 RX12 yX12_refuse v_X12_refuse) := goodIn_app (goodIn_r _ [7, 8, 9, 5] (by decide +kernel) (by decide +kernel)) gg_X12_power_X12_refuse_118
set_option maxRecDepth 100000 in
theorem gg_X12_power_X12_isDevice_444 : GoodIn v_X12_power v_X12_isDevice := goodIn_r _ [16, 17, 18, 19, 5, 20, 21, 22, 23, 24, 25, 3, 4, 6, 26, 27, 28, 29, 30, 31, 32, 33, 34, 35, 36, 37, 38, 39, 40, 41, 42, 43, 44, 45, 46, 47, 48, 49, 50, 51, 52, 53, 54, 55, 56, 57, 58, 59, 60, 61, 62, 63, 64, 65, 66, 67, 68, 69, 70, 71, 72, 73, 74, 75, 76, 77, 78, 79, 80, 81, 82, 83, 84, 85, 86, 87, 88, 89, 90, 91] (by decide +kernel) (by decide +kernel)
set_option maxRecDepth 100000 in
theorem g_X12_power_X12_isDevice_444 : GoodIn v_X12_power (wsV RX12 444 RX12 yX12_isDevice v_X12_isDevice) := goodIn_app (goodIn_r _ [13, 14, 15, 5] (by decide +kernel) (by decide +kernel)) gg_X12_power_X12_isDevice_444
set_option maxHeartbeats 4000000 in
set_option maxRecDepth 100000 in
theorem c_X12_power (l : Launch) (dC : Nat → ClassId) (dI : Nat → Nat → Nat) (cy : Nat → ClassId) (b : Nat → Nat) (sz : Nat) (p0 p1 : Int32) : Met l yX12_power v_X12_power ({ frames := 4, cells := 0, slots := 0, locals := 89 }) (va_Pc [.ref (b 0), .int p0, .int p1] (ps dC dI cy (mw b cy) sz)) (va_Qi (fun (r : Int32) (_ : Unit) => ((p1 < 0) ∧ r = (-1)) ∨ ((¬ p1 < 0) ∧ ((3 : Int32) < p1) ∧ r = (-1)) ∨ ((¬ p1 < 0) ∧ (¬ (3 : Int32) < p1) ∧ (p0 = 0) ∧ r = (-2)) ∨ ((¬ p1 < 0) ∧ (¬ (3 : Int32) < p1) ∧ (¬ p0 = 0) ∧ (p0 < 0) ∧ r = (-2)) ∨ ((¬ p1 < 0) ∧ (¬ (3 : Int32) < p1) ∧ (¬ p0 = 0) ∧ (¬ p0 < 0) ∧ ((0 : Int32) < p0) ∧ r = (-2))) (fun _ _ => True) (va_A (mw b cy) sz)) 0 0 (va_A (mw b cy) sz) := by
  refine Met.ofW (cc := cX12_power) (maxL := 5) (ret := (some .int)) (by decide) rfl ?_
  intro p e s m args below meth c s₁ B hml hv
  obtain ⟨rfl, hsz, hP, hC, hD0⟩ := hv
  have hK := hC.1
  have hx := B.exec
  have hb := B.bytes
  have hr := B.returns
  have hts := atoms_spec (ws := v_X12_power) B.pre
  have hown : s.vm.findClass RX12 = some m.cls := findClass_of_methodNamed B.named
  have hlocks := B.notSynchronized
  subst hsz
  have hD := hD0.self (sz := s.heap.size)
  generalize hAe : va_A (mw b cy) s.heap.size = A at hD ⊢
  have hA : ∀ q : Nat, s.heap.size ≤ q → A q := fun q h => by rw [← hAe]; exact Or.inr h
  have hS : va_S A s.heap s.heap [] := va_S.rf
  have hl := lv_entry ([.ref (b 0), .int p0, .int p1]) (n := 5) (Nat.le_of_ble_eq_true rfl)
  rw [lg_entry_eq]
  generalize (lg_sl ([.ref (b 0), .int p0, .int p1]) ++ List.replicate (5 - (lg_sl ([.ref (b 0), .int p0, .int p1])).length) Slot.unset).toArray = ls at hl ⊢
  have hl : lv_has ls 5 [(0, .ref (b 0)), (1, .int p0), (2, .int p1)] := hl
  refine lv_aload_n hx hb dX12_power_0 rfl (lv_at hl 0 rfl) ?_
  refine lv_iconst (v := 0) hx hb dX12_power_1 (by decide) ?_
  refine va_put (D := (dC, dI)) (ci := 12) (v := .int 0) (ty := .int) (C := RX12) (T := TX12) (N := 59) hx hb hts i_X12_power_X12 tyX12 tyX12_ok nmX12 hown hK hP hD hS 0 rfl rfl 0 (by decide) (hts _ m_X12_power_0) (fun _ h9 => h9) rfl (by decide +kernel) rfl rfl (Nat.le_of_ble_eq_true rfl) dX12_power_2 (fun H locs hP hD hS => ?_)
  have hP : va_P (dC, dI) vwCl (mw b cy) H := hP
  have hD : va_D A (mw b cy) := hD
  refine lv_iload_n hx hb dX12_power_5 rfl (lv_at hl 2 rfl) ?_
  refine lv_i2l (v := Int32.toInt64 p1) hx hb dX12_power_6 rfl ?_
  refine lv_lconst (v := 0) hx hb dX12_power_7 (by decide) ?_
  refine tk_l (Int32.toInt64 0) (by decide) ?_
  refine lv_ldc2 (v := 3) hx hb hown (hts _ m_X12_power_1) dX12_power_8 ?_
  refine tk_l (Int32.toInt64 3) (by decide) ?_
  refine tk_pi (va_runS (As := [.long (Int32.toInt64 p1), .long (Int32.toInt64 0), .long (Int32.toInt64 3)]) (rest := []) ⟨hx, hb, hml, hown, hts⟩ (c_X12_in l dC dI cy  p1 0 3) (va_cwS 3 hts g_X12_power_X12_in_128 rfl rfl rfl (by decide +kernel) ⟨Nat.le_of_ble_eq_true rfl, Nat.le_of_ble_eq_true rfl⟩) (pS_pp hC va_P0) rfl rfl hl.1 rfl (lv_room (Nat.le_of_ble_eq_true rfl)) dX12_power_11 ⟨Nat.le_of_ble_eq_true rfl, Nat.le_of_ble_eq_true rfl⟩) hP hS (fun r_ H locs hw hP hS => ?_)
  rcases hw with ⟨c1_, rfl⟩ | ⟨c2_, c3_, rfl⟩ | ⟨c4_, c5_, rfl⟩
  · skip
    refine lv_if_ne (tgt := 23) hx hb dX12_power_14 (by decide) (fun c9_ => absurd (by decide) c9_) (fun _ => ?_)
    refine lv_aload_n hx hb dX12_power_17 rfl (lv_at hl 0 rfl) ?_
    refine lv_iconst (v := (-1)) hx hb dX12_power_18 (by decide) ?_
    have hPc : va_P (dC, dI) vwCl ([(b 0, .inr (12, [.int 0, .int 0, .ref (b 1), .ref (b 2), .ref (b 3), .ref (b 4), .int 0, .ref (b 5), .ref (b 6), .int 0, .int 0, .int 0, .int (-1), .int 0, .ref (b 7), .ref (b 20), .int 0, .ref (b 21), .ref (b 22), .int 0, .int 0, .ref (b 23), .int 0, .int 0, .int 0, .int 0, .ref (b 24), .ref (b 25), .ref (b 26), .int 0, .ref (b 27), .int 0, .ref (b 28), .ref (b 29), .ref (b 30), .ref (b 31), .ref (b 32), .ref (b 33), .ref (b 34), .int 0, .int 0, .int 0, .int 0, .int 0, .int 0, .ref (b 35), .ref (b 36), .ref (b 37), .int 0, .int 0, .int 0, .ref (b 38), .int 0, .int 0, .ref (b 39), .ref (b 40), .ref (b 41), .ref (b 42), .int 0])), (b 1, .inl (cy 0, 8, .inl (fun _ => 0)))]) _ := hP.sub [0, 1] rfl
    have hDc := hD.sub (ws' := [(b 0, .inr (12, [.int 0, .int 0, .ref (b 1), .ref (b 2), .ref (b 3), .ref (b 4), .int 0, .ref (b 5), .ref (b 6), .int 0, .int 0, .int 0, .int (-1), .int 0, .ref (b 7), .ref (b 20), .int 0, .ref (b 21), .ref (b 22), .int 0, .int 0, .ref (b 23), .int 0, .int 0, .int 0, .int 0, .ref (b 24), .ref (b 25), .ref (b 26), .int 0, .ref (b 27), .int 0, .ref (b 28), .ref (b 29), .ref (b 30), .ref (b 31), .ref (b 32), .ref (b 33), .ref (b 34), .int 0, .int 0, .int 0, .int 0, .int 0, .int 0, .ref (b 35), .ref (b 36), .ref (b 37), .int 0, .int 0, .int 0, .ref (b 38), .int 0, .int 0, .ref (b 39), .ref (b 40), .ref (b 41), .ref (b 42), .int 0])), (b 1, .inl (cy 0, 8, .inl (fun _ => 0)))]) [0, 1] (by decide) rfl
    have hFc := va_free (wc := [(b 0, .inr (12, [.int 0, .int 0, .ref (b 1), .ref (b 2), .ref (b 3), .ref (b 4), .int 0, .ref (b 5), .ref (b 6), .int 0, .int 0, .int 0, .int (-1), .int 0, .ref (b 7), .ref (b 20), .int 0, .ref (b 21), .ref (b 22), .int 0, .int 0, .ref (b 23), .int 0, .int 0, .int 0, .int 0, .ref (b 24), .ref (b 25), .ref (b 26), .int 0, .ref (b 27), .int 0, .ref (b 28), .ref (b 29), .ref (b 30), .ref (b 31), .ref (b 32), .ref (b 33), .ref (b 34), .int 0, .int 0, .int 0, .int 0, .int 0, .int 0, .ref (b 35), .ref (b 36), .ref (b 37), .int 0, .int 0, .int 0, .ref (b 38), .int 0, .int 0, .ref (b 39), .ref (b 40), .ref (b 41), .ref (b 42), .int 0])), (b 1, .inl (cy 0, 8, .inl (fun _ => 0)))]) hD hS hA [0, 1] rfl
    refine va_calli (va_runV (As := [.int (-1)]) (rest := []) ⟨hx, hb, hml, hown, hts⟩ (c_X12_refuse_1 l dC dI cy b _ 0 (-1) 0 0 0 0 0 0 0) (cwV 1 hts g_X12_power_X12_refuse_118 rfl rfl rfl (by decide +kernel) ⟨Nat.le_of_ble_eq_true rfl, Nat.le_of_ble_eq_true rfl⟩) (pv_ps hC hPc hDc (ci := 12) (q0 := 0) rfl rfl) rfl rfl hl.1 rfl (lv_room (Nat.le_of_ble_eq_true rfl)) dX12_power_19 ⟨Nat.le_of_ble_eq_true rfl, Nat.le_of_ble_eq_true rfl⟩) hS (fun q _ h => hFc q h) hFc (fun r_ u t_ H1 locs ht hvm hw hB hz1 hk1 hS => ?_)
    obtain ⟨hP, hD⟩ := va_join (wr := []) (w1 := []) hP hD [0, 1] [] rfl rfl (by decide) (by decide) hk1 hFc va_P0 va_D0
    generalize H1 = H at hP hS ⊢
    have hP : va_P (dC, dI) vwCl ([]) H := hP
    have hD : va_D A ([]) := hD
    subst hw
    exact W.iret (v := (-1)) hx hb hr (fun t ht hW => ⟨⟨(-1), (), rfl, Or.inl (⟨c1_, rfl⟩), trivial⟩, hS.F ht⟩) hS.2.2 dX12_power_22
  · skip
    refine lv_if_ne (tgt := 23) hx hb dX12_power_14 (by decide) (fun c9_ => absurd (by decide) c9_) (fun _ => ?_)
    refine lv_aload_n hx hb dX12_power_17 rfl (lv_at hl 0 rfl) ?_
    refine lv_iconst (v := (-1)) hx hb dX12_power_18 (by decide) ?_
    have hPc : va_P (dC, dI) vwCl ([(b 0, .inr (12, [.int 0, .int 0, .ref (b 1), .ref (b 2), .ref (b 3), .ref (b 4), .int 0, .ref (b 5), .ref (b 6), .int 0, .int 0, .int 0, .int (-1), .int 0, .ref (b 7), .ref (b 20), .int 0, .ref (b 21), .ref (b 22), .int 0, .int 0, .ref (b 23), .int 0, .int 0, .int 0, .int 0, .ref (b 24), .ref (b 25), .ref (b 26), .int 0, .ref (b 27), .int 0, .ref (b 28), .ref (b 29), .ref (b 30), .ref (b 31), .ref (b 32), .ref (b 33), .ref (b 34), .int 0, .int 0, .int 0, .int 0, .int 0, .int 0, .ref (b 35), .ref (b 36), .ref (b 37), .int 0, .int 0, .int 0, .ref (b 38), .int 0, .int 0, .ref (b 39), .ref (b 40), .ref (b 41), .ref (b 42), .int 0])), (b 1, .inl (cy 0, 8, .inl (fun _ => 0)))]) _ := hP.sub [0, 1] rfl
    have hDc := hD.sub (ws' := [(b 0, .inr (12, [.int 0, .int 0, .ref (b 1), .ref (b 2), .ref (b 3), .ref (b 4), .int 0, .ref (b 5), .ref (b 6), .int 0, .int 0, .int 0, .int (-1), .int 0, .ref (b 7), .ref (b 20), .int 0, .ref (b 21), .ref (b 22), .int 0, .int 0, .ref (b 23), .int 0, .int 0, .int 0, .int 0, .ref (b 24), .ref (b 25), .ref (b 26), .int 0, .ref (b 27), .int 0, .ref (b 28), .ref (b 29), .ref (b 30), .ref (b 31), .ref (b 32), .ref (b 33), .ref (b 34), .int 0, .int 0, .int 0, .int 0, .int 0, .int 0, .ref (b 35), .ref (b 36), .ref (b 37), .int 0, .int 0, .int 0, .ref (b 38), .int 0, .int 0, .ref (b 39), .ref (b 40), .ref (b 41), .ref (b 42), .int 0])), (b 1, .inl (cy 0, 8, .inl (fun _ => 0)))]) [0, 1] (by decide) rfl
    have hFc := va_free (wc := [(b 0, .inr (12, [.int 0, .int 0, .ref (b 1), .ref (b 2), .ref (b 3), .ref (b 4), .int 0, .ref (b 5), .ref (b 6), .int 0, .int 0, .int 0, .int (-1), .int 0, .ref (b 7), .ref (b 20), .int 0, .ref (b 21), .ref (b 22), .int 0, .int 0, .ref (b 23), .int 0, .int 0, .int 0, .int 0, .ref (b 24), .ref (b 25), .ref (b 26), .int 0, .ref (b 27), .int 0, .ref (b 28), .ref (b 29), .ref (b 30), .ref (b 31), .ref (b 32), .ref (b 33), .ref (b 34), .int 0, .int 0, .int 0, .int 0, .int 0, .int 0, .ref (b 35), .ref (b 36), .ref (b 37), .int 0, .int 0, .int 0, .ref (b 38), .int 0, .int 0, .ref (b 39), .ref (b 40), .ref (b 41), .ref (b 42), .int 0])), (b 1, .inl (cy 0, 8, .inl (fun _ => 0)))]) hD hS hA [0, 1] rfl
    refine va_calli (va_runV (As := [.int (-1)]) (rest := []) ⟨hx, hb, hml, hown, hts⟩ (c_X12_refuse_1 l dC dI cy b _ 0 (-1) 0 0 0 0 0 0 0) (cwV 1 hts g_X12_power_X12_refuse_118 rfl rfl rfl (by decide +kernel) ⟨Nat.le_of_ble_eq_true rfl, Nat.le_of_ble_eq_true rfl⟩) (pv_ps hC hPc hDc (ci := 12) (q0 := 0) rfl rfl) rfl rfl hl.1 rfl (lv_room (Nat.le_of_ble_eq_true rfl)) dX12_power_19 ⟨Nat.le_of_ble_eq_true rfl, Nat.le_of_ble_eq_true rfl⟩) hS (fun q _ h => hFc q h) hFc (fun r_ u t_ H1 locs ht hvm hw hB hz1 hk1 hS => ?_)
    obtain ⟨hP, hD⟩ := va_join (wr := []) (w1 := []) hP hD [0, 1] [] rfl rfl (by decide) (by decide) hk1 hFc va_P0 va_D0
    generalize H1 = H at hP hS ⊢
    have hP : va_P (dC, dI) vwCl ([]) H := hP
    have hD : va_D A ([]) := hD
    subst hw
    exact W.iret (v := (-1)) hx hb hr (fun t ht hW => ⟨⟨(-1), (), rfl, Or.inr (Or.inl (⟨c2_, c3_, rfl⟩)), trivial⟩, hS.F ht⟩) hS.2.2 dX12_power_22
  · skip
    refine lv_if_ne (tgt := 23) hx hb dX12_power_14 (by decide) (fun _ => ?_) (fun c9_ => absurd c9_ (by decide))
    refine lv_aload_n hx hb dX12_power_23 rfl (lv_at hl 0 rfl) ?_
    refine lv_iload_n hx hb dX12_power_24 rfl (lv_at hl 1 rfl) ?_
    refine tk_pi (va_runV (As := [.int p0]) (rest := []) ⟨hx, hb, hml, hown, hts⟩ (c_X12_isDevice l dC dI cy b p0) (cwV 1 hts g_X12_power_X12_isDevice_444 rfl rfl rfl (by decide +kernel) ⟨Nat.le_of_ble_eq_true rfl, Nat.le_of_ble_eq_true rfl⟩) (pv_pp hC hP (ci := 12) (q0 := 0) rfl rfl) rfl rfl hl.1 rfl (lv_room (Nat.le_of_ble_eq_true rfl)) dX12_power_25 ⟨Nat.le_of_ble_eq_true rfl, Nat.le_of_ble_eq_true rfl⟩) hP hS (fun r_ H locs hw hP hS => ?_)
    rcases hw with ⟨c6_, rfl⟩ | ⟨c7_, c8_, rfl⟩ | ⟨c9_, c10_, c11_, rfl⟩
    · skip
      subst c6_
      refine lv_if_ne (tgt := 38) hx hb dX12_power_28 (by decide) (fun c9_ => absurd (by decide) c9_) (fun _ => ?_)
      refine lv_aload_n hx hb dX12_power_31 rfl (lv_at hl 0 rfl) ?_
      refine lv_bipush (v := (-2)) hx hb dX12_power_32 (by decide) ?_
      have hPc : va_P (dC, dI) vwCl ([(b 0, .inr (12, [.int 0, .int 0, .ref (b 1), .ref (b 2), .ref (b 3), .ref (b 4), .int 0, .ref (b 5), .ref (b 6), .int 0, .int 0, .int 0, .int (-1), .int 0, .ref (b 7), .ref (b 20), .int 0, .ref (b 21), .ref (b 22), .int 0, .int 0, .ref (b 23), .int 0, .int 0, .int 0, .int 0, .ref (b 24), .ref (b 25), .ref (b 26), .int 0, .ref (b 27), .int 0, .ref (b 28), .ref (b 29), .ref (b 30), .ref (b 31), .ref (b 32), .ref (b 33), .ref (b 34), .int 0, .int 0, .int 0, .int 0, .int 0, .int 0, .ref (b 35), .ref (b 36), .ref (b 37), .int 0, .int 0, .int 0, .ref (b 38), .int 0, .int 0, .ref (b 39), .ref (b 40), .ref (b 41), .ref (b 42), .int 0])), (b 1, .inl (cy 0, 8, .inl (fun _ => 0)))]) _ := hP.sub [0, 1] rfl
      have hDc := hD.sub (ws' := [(b 0, .inr (12, [.int 0, .int 0, .ref (b 1), .ref (b 2), .ref (b 3), .ref (b 4), .int 0, .ref (b 5), .ref (b 6), .int 0, .int 0, .int 0, .int (-1), .int 0, .ref (b 7), .ref (b 20), .int 0, .ref (b 21), .ref (b 22), .int 0, .int 0, .ref (b 23), .int 0, .int 0, .int 0, .int 0, .ref (b 24), .ref (b 25), .ref (b 26), .int 0, .ref (b 27), .int 0, .ref (b 28), .ref (b 29), .ref (b 30), .ref (b 31), .ref (b 32), .ref (b 33), .ref (b 34), .int 0, .int 0, .int 0, .int 0, .int 0, .int 0, .ref (b 35), .ref (b 36), .ref (b 37), .int 0, .int 0, .int 0, .ref (b 38), .int 0, .int 0, .ref (b 39), .ref (b 40), .ref (b 41), .ref (b 42), .int 0])), (b 1, .inl (cy 0, 8, .inl (fun _ => 0)))]) [0, 1] (by decide) rfl
      have hFc := va_free (wc := [(b 0, .inr (12, [.int 0, .int 0, .ref (b 1), .ref (b 2), .ref (b 3), .ref (b 4), .int 0, .ref (b 5), .ref (b 6), .int 0, .int 0, .int 0, .int (-1), .int 0, .ref (b 7), .ref (b 20), .int 0, .ref (b 21), .ref (b 22), .int 0, .int 0, .ref (b 23), .int 0, .int 0, .int 0, .int 0, .ref (b 24), .ref (b 25), .ref (b 26), .int 0, .ref (b 27), .int 0, .ref (b 28), .ref (b 29), .ref (b 30), .ref (b 31), .ref (b 32), .ref (b 33), .ref (b 34), .int 0, .int 0, .int 0, .int 0, .int 0, .int 0, .ref (b 35), .ref (b 36), .ref (b 37), .int 0, .int 0, .int 0, .ref (b 38), .int 0, .int 0, .ref (b 39), .ref (b 40), .ref (b 41), .ref (b 42), .int 0])), (b 1, .inl (cy 0, 8, .inl (fun _ => 0)))]) hD hS hA [0, 1] rfl
      refine va_calli (va_runV (As := [.int (-2)]) (rest := []) ⟨hx, hb, hml, hown, hts⟩ (c_X12_refuse_2 l dC dI cy b _ 0 (-1) 0 0 0 0 0 0 0) (cwV 1 hts g_X12_power_X12_refuse_118 rfl rfl rfl (by decide +kernel) ⟨Nat.le_of_ble_eq_true rfl, Nat.le_of_ble_eq_true rfl⟩) (pv_ps hC hPc hDc (ci := 12) (q0 := 0) rfl rfl) rfl rfl hl.1 rfl (lv_room (Nat.le_of_ble_eq_true rfl)) dX12_power_34 ⟨Nat.le_of_ble_eq_true rfl, Nat.le_of_ble_eq_true rfl⟩) hS (fun q _ h => hFc q h) hFc (fun r_ u t_ H1 locs ht hvm hw hB hz1 hk1 hS => ?_)
      obtain ⟨hP, hD⟩ := va_join (wr := []) (w1 := []) hP hD [0, 1] [] rfl rfl (by decide) (by decide) hk1 hFc va_P0 va_D0
      generalize H1 = H at hP hS ⊢
      have hP : va_P (dC, dI) vwCl ([]) H := hP
      have hD : va_D A ([]) := hD
      subst hw
      exact W.iret (v := (-2)) hx hb hr (fun t ht hW => ⟨⟨(-2), (), rfl, Or.inr (Or.inr (Or.inl (⟨c4_, c5_, rfl, rfl⟩))), trivial⟩, hS.F ht⟩) hS.2.2 dX12_power_37
    · skip
      refine lv_if_ne (tgt := 38) hx hb dX12_power_28 (by decide) (fun c9_ => absurd (by decide) c9_) (fun _ => ?_)
      refine lv_aload_n hx hb dX12_power_31 rfl (lv_at hl 0 rfl) ?_
      refine lv_bipush (v := (-2)) hx hb dX12_power_32 (by decide) ?_
      have hPc : va_P (dC, dI) vwCl ([(b 0, .inr (12, [.int 0, .int 0, .ref (b 1), .ref (b 2), .ref (b 3), .ref (b 4), .int 0, .ref (b 5), .ref (b 6), .int 0, .int 0, .int 0, .int (-1), .int 0, .ref (b 7), .ref (b 20), .int 0, .ref (b 21), .ref (b 22), .int 0, .int 0, .ref (b 23), .int 0, .int 0, .int 0, .int 0, .ref (b 24), .ref (b 25), .ref (b 26), .int 0, .ref (b 27), .int 0, .ref (b 28), .ref (b 29), .ref (b 30), .ref (b 31), .ref (b 32), .ref (b 33), .ref (b 34), .int 0, .int 0, .int 0, .int 0, .int 0, .int 0, .ref (b 35), .ref (b 36), .ref (b 37), .int 0, .int 0, .int 0, .ref (b 38), .int 0, .int 0, .ref (b 39), .ref (b 40), .ref (b 41), .ref (b 42), .int 0])), (b 1, .inl (cy 0, 8, .inl (fun _ => 0)))]) _ := hP.sub [0, 1] rfl
      have hDc := hD.sub (ws' := [(b 0, .inr (12, [.int 0, .int 0, .ref (b 1), .ref (b 2), .ref (b 3), .ref (b 4), .int 0, .ref (b 5), .ref (b 6), .int 0, .int 0, .int 0, .int (-1), .int 0, .ref (b 7), .ref (b 20), .int 0, .ref (b 21), .ref (b 22), .int 0, .int 0, .ref (b 23), .int 0, .int 0, .int 0, .int 0, .ref (b 24), .ref (b 25), .ref (b 26), .int 0, .ref (b 27), .int 0, .ref (b 28), .ref (b 29), .ref (b 30), .ref (b 31), .ref (b 32), .ref (b 33), .ref (b 34), .int 0, .int 0, .int 0, .int 0, .int 0, .int 0, .ref (b 35), .ref (b 36), .ref (b 37), .int 0, .int 0, .int 0, .ref (b 38), .int 0, .int 0, .ref (b 39), .ref (b 40), .ref (b 41), .ref (b 42), .int 0])), (b 1, .inl (cy 0, 8, .inl (fun _ => 0)))]) [0, 1] (by decide) rfl
      have hFc := va_free (wc := [(b 0, .inr (12, [.int 0, .int 0, .ref (b 1), .ref (b 2), .ref (b 3), .ref (b 4), .int 0, .ref (b 5), .ref (b 6), .int 0, .int 0, .int 0, .int (-1), .int 0, .ref (b 7), .ref (b 20), .int 0, .ref (b 21), .ref (b 22), .int 0, .int 0, .ref (b 23), .int 0, .int 0, .int 0, .int 0, .ref (b 24), .ref (b 25), .ref (b 26), .int 0, .ref (b 27), .int 0, .ref (b 28), .ref (b 29), .ref (b 30), .ref (b 31), .ref (b 32), .ref (b 33), .ref (b 34), .int 0, .int 0, .int 0, .int 0, .int 0, .int 0, .ref (b 35), .ref (b 36), .ref (b 37), .int 0, .int 0, .int 0, .ref (b 38), .int 0, .int 0, .ref (b 39), .ref (b 40), .ref (b 41), .ref (b 42), .int 0])), (b 1, .inl (cy 0, 8, .inl (fun _ => 0)))]) hD hS hA [0, 1] rfl
      refine va_calli (va_runV (As := [.int (-2)]) (rest := []) ⟨hx, hb, hml, hown, hts⟩ (c_X12_refuse_2 l dC dI cy b _ 0 (-1) 0 0 0 0 0 0 0) (cwV 1 hts g_X12_power_X12_refuse_118 rfl rfl rfl (by decide +kernel) ⟨Nat.le_of_ble_eq_true rfl, Nat.le_of_ble_eq_true rfl⟩) (pv_ps hC hPc hDc (ci := 12) (q0 := 0) rfl rfl) rfl rfl hl.1 rfl (lv_room (Nat.le_of_ble_eq_true rfl)) dX12_power_34 ⟨Nat.le_of_ble_eq_true rfl, Nat.le_of_ble_eq_true rfl⟩) hS (fun q _ h => hFc q h) hFc (fun r_ u t_ H1 locs ht hvm hw hB hz1 hk1 hS => ?_)
      obtain ⟨hP, hD⟩ := va_join (wr := []) (w1 := []) hP hD [0, 1] [] rfl rfl (by decide) (by decide) hk1 hFc va_P0 va_D0
      generalize H1 = H at hP hS ⊢
      have hP : va_P (dC, dI) vwCl ([]) H := hP
      have hD : va_D A ([]) := hD
      subst hw
      exact W.iret (v := (-2)) hx hb hr (fun t ht hW => ⟨⟨(-2), (), rfl, Or.inr (Or.inr (Or.inr (Or.inl (⟨c4_, c5_, c7_, c8_, rfl⟩)))), trivial⟩, hS.F ht⟩) hS.2.2 dX12_power_37
    · skip
      refine lv_if_ne (tgt := 38) hx hb dX12_power_28 (by decide) (fun c9_ => absurd (by decide) c9_) (fun _ => ?_)
      refine lv_aload_n hx hb dX12_power_31 rfl (lv_at hl 0 rfl) ?_
      refine lv_bipush (v := (-2)) hx hb dX12_power_32 (by decide) ?_
      have hPc : va_P (dC, dI) vwCl ([(b 0, .inr (12, [.int 0, .int 0, .ref (b 1), .ref (b 2), .ref (b 3), .ref (b 4), .int 0, .ref (b 5), .ref (b 6), .int 0, .int 0, .int 0, .int (-1), .int 0, .ref (b 7), .ref (b 20), .int 0, .ref (b 21), .ref (b 22), .int 0, .int 0, .ref (b 23), .int 0, .int 0, .int 0, .int 0, .ref (b 24), .ref (b 25), .ref (b 26), .int 0, .ref (b 27), .int 0, .ref (b 28), .ref (b 29), .ref (b 30), .ref (b 31), .ref (b 32), .ref (b 33), .ref (b 34), .int 0, .int 0, .int 0, .int 0, .int 0, .int 0, .ref (b 35), .ref (b 36), .ref (b 37), .int 0, .int 0, .int 0, .ref (b 38), .int 0, .int 0, .ref (b 39), .ref (b 40), .ref (b 41), .ref (b 42), .int 0])), (b 1, .inl (cy 0, 8, .inl (fun _ => 0)))]) _ := hP.sub [0, 1] rfl
      have hDc := hD.sub (ws' := [(b 0, .inr (12, [.int 0, .int 0, .ref (b 1), .ref (b 2), .ref (b 3), .ref (b 4), .int 0, .ref (b 5), .ref (b 6), .int 0, .int 0, .int 0, .int (-1), .int 0, .ref (b 7), .ref (b 20), .int 0, .ref (b 21), .ref (b 22), .int 0, .int 0, .ref (b 23), .int 0, .int 0, .int 0, .int 0, .ref (b 24), .ref (b 25), .ref (b 26), .int 0, .ref (b 27), .int 0, .ref (b 28), .ref (b 29), .ref (b 30), .ref (b 31), .ref (b 32), .ref (b 33), .ref (b 34), .int 0, .int 0, .int 0, .int 0, .int 0, .int 0, .ref (b 35), .ref (b 36), .ref (b 37), .int 0, .int 0, .int 0, .ref (b 38), .int 0, .int 0, .ref (b 39), .ref (b 40), .ref (b 41), .ref (b 42), .int 0])), (b 1, .inl (cy 0, 8, .inl (fun _ => 0)))]) [0, 1] (by decide) rfl
      have hFc := va_free (wc := [(b 0, .inr (12, [.int 0, .int 0, .ref (b 1), .ref (b 2), .ref (b 3), .ref (b 4), .int 0, .ref (b 5), .ref (b 6), .int 0, .int 0, .int 0, .int (-1), .int 0, .ref (b 7), .ref (b 20), .int 0, .ref (b 21), .ref (b 22), .int 0, .int 0, .ref (b 23), .int 0, .int 0, .int 0, .int 0, .ref (b 24), .ref (b 25), .ref (b 26), .int 0, .ref (b 27), .int 0, .ref (b 28), .ref (b 29), .ref (b 30), .ref (b 31), .ref (b 32), .ref (b 33), .ref (b 34), .int 0, .int 0, .int 0, .int 0, .int 0, .int 0, .ref (b 35), .ref (b 36), .ref (b 37), .int 0, .int 0, .int 0, .ref (b 38), .int 0, .int 0, .ref (b 39), .ref (b 40), .ref (b 41), .ref (b 42), .int 0])), (b 1, .inl (cy 0, 8, .inl (fun _ => 0)))]) hD hS hA [0, 1] rfl
      refine va_calli (va_runV (As := [.int (-2)]) (rest := []) ⟨hx, hb, hml, hown, hts⟩ (c_X12_refuse_2 l dC dI cy b _ 0 (-1) 0 0 0 0 0 0 0) (cwV 1 hts g_X12_power_X12_refuse_118 rfl rfl rfl (by decide +kernel) ⟨Nat.le_of_ble_eq_true rfl, Nat.le_of_ble_eq_true rfl⟩) (pv_ps hC hPc hDc (ci := 12) (q0 := 0) rfl rfl) rfl rfl hl.1 rfl (lv_room (Nat.le_of_ble_eq_true rfl)) dX12_power_34 ⟨Nat.le_of_ble_eq_true rfl, Nat.le_of_ble_eq_true rfl⟩) hS (fun q _ h => hFc q h) hFc (fun r_ u t_ H1 locs ht hvm hw hB hz1 hk1 hS => ?_)
      obtain ⟨hP, hD⟩ := va_join (wr := []) (w1 := []) hP hD [0, 1] [] rfl rfl (by decide) (by decide) hk1 hFc va_P0 va_D0
      generalize H1 = H at hP hS ⊢
      have hP : va_P (dC, dI) vwCl ([]) H := hP
      have hD : va_D A ([]) := hD
      subst hw
      exact W.iret (v := (-2)) hx hb hr (fun t ht hW => ⟨⟨(-2), (), rfl, Or.inr (Or.inr (Or.inr (Or.inr (⟨c4_, c5_, c9_, c10_, c11_, rfl⟩)))), trivial⟩, hS.F ht⟩) hS.2.2 dX12_power_37

theorem dX12_arm_0 : decode cX12_arm 0 = .ok (.aload_n 0, 1) := by decide +kernel
theorem dX12_arm_1 : decode cX12_arm 1 = .ok (.iconst 0, 1) := by decide +kernel
theorem dX12_arm_2 : decode cX12_arm 2 = .ok (.putfield 105, 3) := by decide +kernel
theorem dX12_arm_5 : decode cX12_arm 5 = .ok (.aload_n 0, 1) := by decide +kernel
theorem dX12_arm_6 : decode cX12_arm 6 = .ok (.iload_n 1, 1) := by decide +kernel
theorem dX12_arm_7 : decode cX12_arm 7 = .ok (.invokevirtual 444, 3) := by decide +kernel
theorem dX12_arm_10 : decode cX12_arm 10 = .ok (.ifCond .ne 10, 3) := by decide +kernel
theorem dX12_arm_13 : decode cX12_arm 13 = .ok (.aload_n 0, 1) := by decide +kernel
theorem dX12_arm_14 : decode cX12_arm 14 = .ok (.bipush (-2), 2) := by decide +kernel
theorem dX12_arm_16 : decode cX12_arm 16 = .ok (.invokevirtual 118, 3) := by decide +kernel
theorem dX12_arm_19 : decode cX12_arm 19 = .ok (.ireturn, 1) := by decide +kernel
def v_X12_arm : List Cond := .code yX12_arm cX12_arm 5 (some .int) :: ([.fieldLink RX12 105 "RestBoardModel" "thrown" "I", .methodLink RX12 444 yX12_isDevice, .instanceMethod yX12_isDevice, .selects RX12 yX12_isDevice yX12_isDevice, .initialized RX12, .code yX12_isDevice cX12_isDevice 2 (some .boolean), .methodLink RX12 143 yX12_isOf, .instanceMethod yX12_isOf, .selects RX12 yX12_isOf yX12_isOf, .code yX12_isOf cX12_isOf 3 (some .boolean), .methodLink RX12 132 yX12_isNode, .instanceMethod yX12_isNode, .selects RX12 yX12_isNode yX12_isNode, .code yX12_isNode cX12_isNode 2 (some .boolean), .fieldLink RX12 13 "RestBoardModel" "row" "[I", .methodLink RX12 128 yX12_in, .static yX12_in, .code yX12_in cX12_in 6 (some .boolean), .methodLink RX12 136 yX12_kind, .instanceMethod yX12_kind, .selects RX12 yX12_kind yX12_kind, .code yX12_kind cX12_kind 2 (some .int), .methodLink RX12 125 yX12_at, .static yX12_at, .code yX12_at cX12_at 1 (some .int), .methodLink RX12 118 yX12_refuse, .instanceMethod yX12_refuse, .selects RX12 yX12_refuse yX12_refuse, .code yX12_refuse cX12_refuse 2 (some .int), .fieldLink RX12 108 "RestBoardModel" "status" "I", .fieldLink RX12 7 "RestBoardModel" "refusals" "[I"] ++ wsX120)
theorem m_X12_arm_0 : (.fieldLink RX12 105 "RestBoardModel" "thrown" "I" : Cond) ∈ v_X12_arm := List.mem_of_getElem? (i := 1) (by decide +kernel)
theorem i_X12_arm_X12 : ∀ w ∈ u_ws RX12 TX12 59, w ∈ v_X12_arm := fun w h => List.mem_cons_of_mem _ (List.mem_append_right _ h)
set_option maxRecDepth 100000 in
theorem gg_X12_arm_X12_isDevice_444 : GoodIn v_X12_arm v_X12_isDevice := goodIn_r _ [6, 7, 8, 9, 5, 10, 11, 12, 13, 14, 15, 16, 17, 18, 19, 20, 21, 22, 23, 24, 25, 32, 33, 34, 35, 36, 37, 38, 39, 40, 41, 42, 43, 44, 45, 46, 47, 48, 49, 50, 51, 52, 53, 54, 55, 56, 57, 58, 59, 60, 61, 62, 63, 64, 65, 66, 67, 68, 69, 70, 71, 72, 73, 74, 75, 76, 77, 78, 79, 80, 81, 82, 83, 84, 85, 86, 87, 88, 89, 90] (by decide +kernel) (by decide +kernel)
set_option maxRecDepth 100000 in
theorem g_X12_arm_X12_isDevice_444 : GoodIn v_X12_arm (wsV RX12 444 RX12 yX12_isDevice v_X12_isDevice) := goodIn_app (goodIn_r _ [2, 3, 4, 5] (by decide +kernel) (by decide +kernel)) gg_X12_arm_X12_isDevice_444
set_option maxRecDepth 100000 in
theorem gg_X12_arm_X12_refuse_118 : GoodIn v_X12_arm v_X12_refuse := goodIn_r _ [29, 30, 31, 32, 33, 34, 35, 36, 37, 38, 39, 40, 41, 42, 43, 44, 45, 46, 47, 48, 49, 50, 51, 52, 53, 54, 55, 56, 57, 58, 59, 60, 61, 62, 63, 64, 65, 66, 67, 68, 69, 70, 71, 72, 73, 74, 75, 76, 77, 78, 79, 80, 81, 82, 83, 84, 85, 86, 87, 88, 89, 90] (by decide +kernel) (by decide +kernel)
set_option maxRecDepth 100000 in
theorem g_X12_arm_X12_refuse_118 : GoodIn v_X12_arm (wsV RX12 118 RX12 yX12_refuse v_X12_refuse) := goodIn_app (goodIn_r _ [26, 27, 28, 5] (by decide +kernel) (by decide +kernel)) gg_X12_arm_X12_refuse_118
set_option maxHeartbeats 4000000 in
set_option maxRecDepth 100000 in
theorem c_X12_arm (l : Launch) (dC : Nat → ClassId) (dI : Nat → Nat → Nat) (cy : Nat → ClassId) (b : Nat → Nat) (sz : Nat) (p0 : Int32) : Met l yX12_arm v_X12_arm ({ frames := 4, cells := 0, slots := 0, locals := 89 }) (va_Pc [.ref (b 0), .int p0] (ps dC dI cy (mw b cy) sz)) (va_Qi (fun (r : Int32) (_ : Unit) => ((p0 = 0) ∧ r = (-2)) ∨ ((¬ p0 = 0) ∧ (p0 < 0) ∧ r = (-2)) ∨ ((¬ p0 = 0) ∧ (¬ p0 < 0) ∧ ((0 : Int32) < p0) ∧ r = (-2))) (fun _ _ => True) (va_A (mw b cy) sz)) 0 0 (va_A (mw b cy) sz) := by
  refine Met.ofW (cc := cX12_arm) (maxL := 5) (ret := (some .int)) (by decide) rfl ?_
  intro p e s m args below meth c s₁ B hml hv
  obtain ⟨rfl, hsz, hP, hC, hD0⟩ := hv
  have hK := hC.1
  have hx := B.exec
  have hb := B.bytes
  have hr := B.returns
  have hts := atoms_spec (ws := v_X12_arm) B.pre
  have hown : s.vm.findClass RX12 = some m.cls := findClass_of_methodNamed B.named
  have hlocks := B.notSynchronized
  subst hsz
  have hD := hD0.self (sz := s.heap.size)
  generalize hAe : va_A (mw b cy) s.heap.size = A at hD ⊢
  have hA : ∀ q : Nat, s.heap.size ≤ q → A q := fun q h => by rw [← hAe]; exact Or.inr h
  have hS : va_S A s.heap s.heap [] := va_S.rf
  have hl := lv_entry ([.ref (b 0), .int p0]) (n := 5) (Nat.le_of_ble_eq_true rfl)
  rw [lg_entry_eq]
  generalize (lg_sl ([.ref (b 0), .int p0]) ++ List.replicate (5 - (lg_sl ([.ref (b 0), .int p0])).length) Slot.unset).toArray = ls at hl ⊢
  have hl : lv_has ls 5 [(0, .ref (b 0)), (1, .int p0)] := hl
  refine lv_aload_n hx hb dX12_arm_0 rfl (lv_at hl 0 rfl) ?_
  refine lv_iconst (v := 0) hx hb dX12_arm_1 (by decide) ?_
  refine va_put (D := (dC, dI)) (ci := 12) (v := .int 0) (ty := .int) (C := RX12) (T := TX12) (N := 59) hx hb hts i_X12_arm_X12 tyX12 tyX12_ok nmX12 hown hK hP hD hS 0 rfl rfl 0 (by decide) (hts _ m_X12_arm_0) (fun _ h9 => h9) rfl (by decide +kernel) rfl rfl (Nat.le_of_ble_eq_true rfl) dX12_arm_2 (fun H locs hP hD hS => ?_)
  have hP : va_P (dC, dI) vwCl (mw b cy) H := hP
  have hD : va_D A (mw b cy) := hD
  refine lv_aload_n hx hb dX12_arm_5 rfl (lv_at hl 0 rfl) ?_
  refine lv_iload_n hx hb dX12_arm_6 rfl (lv_at hl 1 rfl) ?_
  refine tk_pi (va_runV (As := [.int p0]) (rest := []) ⟨hx, hb, hml, hown, hts⟩ (c_X12_isDevice l dC dI cy b p0) (cwV 1 hts g_X12_arm_X12_isDevice_444 rfl rfl rfl (by decide +kernel) ⟨Nat.le_of_ble_eq_true rfl, Nat.le_of_ble_eq_true rfl⟩) (pv_pp hC hP (ci := 12) (q0 := 0) rfl rfl) rfl rfl hl.1 rfl (lv_room (Nat.le_of_ble_eq_true rfl)) dX12_arm_7 ⟨Nat.le_of_ble_eq_true rfl, Nat.le_of_ble_eq_true rfl⟩) hP hS (fun r_ H locs hw hP hS => ?_)
  rcases hw with ⟨c1_, rfl⟩ | ⟨c2_, c3_, rfl⟩ | ⟨c4_, c5_, c6_, rfl⟩
  · skip
    subst c1_
    refine lv_if_ne (tgt := 20) hx hb dX12_arm_10 (by decide) (fun c9_ => absurd (by decide) c9_) (fun _ => ?_)
    refine lv_aload_n hx hb dX12_arm_13 rfl (lv_at hl 0 rfl) ?_
    refine lv_bipush (v := (-2)) hx hb dX12_arm_14 (by decide) ?_
    have hPc : va_P (dC, dI) vwCl ([(b 0, .inr (12, [.int 0, .int 0, .ref (b 1), .ref (b 2), .ref (b 3), .ref (b 4), .int 0, .ref (b 5), .ref (b 6), .int 0, .int 0, .int 0, .int (-1), .int 0, .ref (b 7), .ref (b 20), .int 0, .ref (b 21), .ref (b 22), .int 0, .int 0, .ref (b 23), .int 0, .int 0, .int 0, .int 0, .ref (b 24), .ref (b 25), .ref (b 26), .int 0, .ref (b 27), .int 0, .ref (b 28), .ref (b 29), .ref (b 30), .ref (b 31), .ref (b 32), .ref (b 33), .ref (b 34), .int 0, .int 0, .int 0, .int 0, .int 0, .int 0, .ref (b 35), .ref (b 36), .ref (b 37), .int 0, .int 0, .int 0, .ref (b 38), .int 0, .int 0, .ref (b 39), .ref (b 40), .ref (b 41), .ref (b 42), .int 0])), (b 1, .inl (cy 0, 8, .inl (fun _ => 0)))]) _ := hP.sub [0, 1] rfl
    have hDc := hD.sub (ws' := [(b 0, .inr (12, [.int 0, .int 0, .ref (b 1), .ref (b 2), .ref (b 3), .ref (b 4), .int 0, .ref (b 5), .ref (b 6), .int 0, .int 0, .int 0, .int (-1), .int 0, .ref (b 7), .ref (b 20), .int 0, .ref (b 21), .ref (b 22), .int 0, .int 0, .ref (b 23), .int 0, .int 0, .int 0, .int 0, .ref (b 24), .ref (b 25), .ref (b 26), .int 0, .ref (b 27), .int 0, .ref (b 28), .ref (b 29), .ref (b 30), .ref (b 31), .ref (b 32), .ref (b 33), .ref (b 34), .int 0, .int 0, .int 0, .int 0, .int 0, .int 0, .ref (b 35), .ref (b 36), .ref (b 37), .int 0, .int 0, .int 0, .ref (b 38), .int 0, .int 0, .ref (b 39), .ref (b 40), .ref (b 41), .ref (b 42), .int 0])), (b 1, .inl (cy 0, 8, .inl (fun _ => 0)))]) [0, 1] (by decide) rfl
    have hFc := va_free (wc := [(b 0, .inr (12, [.int 0, .int 0, .ref (b 1), .ref (b 2), .ref (b 3), .ref (b 4), .int 0, .ref (b 5), .ref (b 6), .int 0, .int 0, .int 0, .int (-1), .int 0, .ref (b 7), .ref (b 20), .int 0, .ref (b 21), .ref (b 22), .int 0, .int 0, .ref (b 23), .int 0, .int 0, .int 0, .int 0, .ref (b 24), .ref (b 25), .ref (b 26), .int 0, .ref (b 27), .int 0, .ref (b 28), .ref (b 29), .ref (b 30), .ref (b 31), .ref (b 32), .ref (b 33), .ref (b 34), .int 0, .int 0, .int 0, .int 0, .int 0, .int 0, .ref (b 35), .ref (b 36), .ref (b 37), .int 0, .int 0, .int 0, .ref (b 38), .int 0, .int 0, .ref (b 39), .ref (b 40), .ref (b 41), .ref (b 42), .int 0])), (b 1, .inl (cy 0, 8, .inl (fun _ => 0)))]) hD hS hA [0, 1] rfl
    refine va_calli (va_runV (As := [.int (-2)]) (rest := []) ⟨hx, hb, hml, hown, hts⟩ (c_X12_refuse_2 l dC dI cy b _ 0 (-1) 0 0 0 0 0 0 0) (cwV 1 hts g_X12_arm_X12_refuse_118 rfl rfl rfl (by decide +kernel) ⟨Nat.le_of_ble_eq_true rfl, Nat.le_of_ble_eq_true rfl⟩) (pv_ps hC hPc hDc (ci := 12) (q0 := 0) rfl rfl) rfl rfl hl.1 rfl (lv_room (Nat.le_of_ble_eq_true rfl)) dX12_arm_16 ⟨Nat.le_of_ble_eq_true rfl, Nat.le_of_ble_eq_true rfl⟩) hS (fun q _ h => hFc q h) hFc (fun r_ u t_ H1 locs ht hvm hw hB hz1 hk1 hS => ?_)
    obtain ⟨hP, hD⟩ := va_join (wr := []) (w1 := []) hP hD [0, 1] [] rfl rfl (by decide) (by decide) hk1 hFc va_P0 va_D0
    generalize H1 = H at hP hS ⊢
    have hP : va_P (dC, dI) vwCl ([]) H := hP
    have hD : va_D A ([]) := hD
    subst hw
    exact W.iret (v := (-2)) hx hb hr (fun t ht hW => ⟨⟨(-2), (), rfl, Or.inl (⟨rfl, rfl⟩), trivial⟩, hS.F ht⟩) hS.2.2 dX12_arm_19
  · skip
    refine lv_if_ne (tgt := 20) hx hb dX12_arm_10 (by decide) (fun c9_ => absurd (by decide) c9_) (fun _ => ?_)
    refine lv_aload_n hx hb dX12_arm_13 rfl (lv_at hl 0 rfl) ?_
    refine lv_bipush (v := (-2)) hx hb dX12_arm_14 (by decide) ?_
    have hPc : va_P (dC, dI) vwCl ([(b 0, .inr (12, [.int 0, .int 0, .ref (b 1), .ref (b 2), .ref (b 3), .ref (b 4), .int 0, .ref (b 5), .ref (b 6), .int 0, .int 0, .int 0, .int (-1), .int 0, .ref (b 7), .ref (b 20), .int 0, .ref (b 21), .ref (b 22), .int 0, .int 0, .ref (b 23), .int 0, .int 0, .int 0, .int 0, .ref (b 24), .ref (b 25), .ref (b 26), .int 0, .ref (b 27), .int 0, .ref (b 28), .ref (b 29), .ref (b 30), .ref (b 31), .ref (b 32), .ref (b 33), .ref (b 34), .int 0, .int 0, .int 0, .int 0, .int 0, .int 0, .ref (b 35), .ref (b 36), .ref (b 37), .int 0, .int 0, .int 0, .ref (b 38), .int 0, .int 0, .ref (b 39), .ref (b 40), .ref (b 41), .ref (b 42), .int 0])), (b 1, .inl (cy 0, 8, .inl (fun _ => 0)))]) _ := hP.sub [0, 1] rfl
    have hDc := hD.sub (ws' := [(b 0, .inr (12, [.int 0, .int 0, .ref (b 1), .ref (b 2), .ref (b 3), .ref (b 4), .int 0, .ref (b 5), .ref (b 6), .int 0, .int 0, .int 0, .int (-1), .int 0, .ref (b 7), .ref (b 20), .int 0, .ref (b 21), .ref (b 22), .int 0, .int 0, .ref (b 23), .int 0, .int 0, .int 0, .int 0, .ref (b 24), .ref (b 25), .ref (b 26), .int 0, .ref (b 27), .int 0, .ref (b 28), .ref (b 29), .ref (b 30), .ref (b 31), .ref (b 32), .ref (b 33), .ref (b 34), .int 0, .int 0, .int 0, .int 0, .int 0, .int 0, .ref (b 35), .ref (b 36), .ref (b 37), .int 0, .int 0, .int 0, .ref (b 38), .int 0, .int 0, .ref (b 39), .ref (b 40), .ref (b 41), .ref (b 42), .int 0])), (b 1, .inl (cy 0, 8, .inl (fun _ => 0)))]) [0, 1] (by decide) rfl
    have hFc := va_free (wc := [(b 0, .inr (12, [.int 0, .int 0, .ref (b 1), .ref (b 2), .ref (b 3), .ref (b 4), .int 0, .ref (b 5), .ref (b 6), .int 0, .int 0, .int 0, .int (-1), .int 0, .ref (b 7), .ref (b 20), .int 0, .ref (b 21), .ref (b 22), .int 0, .int 0, .ref (b 23), .int 0, .int 0, .int 0, .int 0, .ref (b 24), .ref (b 25), .ref (b 26), .int 0, .ref (b 27), .int 0, .ref (b 28), .ref (b 29), .ref (b 30), .ref (b 31), .ref (b 32), .ref (b 33), .ref (b 34), .int 0, .int 0, .int 0, .int 0, .int 0, .int 0, .ref (b 35), .ref (b 36), .ref (b 37), .int 0, .int 0, .int 0, .ref (b 38), .int 0, .int 0, .ref (b 39), .ref (b 40), .ref (b 41), .ref (b 42), .int 0])), (b 1, .inl (cy 0, 8, .inl (fun _ => 0)))]) hD hS hA [0, 1] rfl
    refine va_calli (va_runV (As := [.int (-2)]) (rest := []) ⟨hx, hb, hml, hown, hts⟩ (c_X12_refuse_2 l dC dI cy b _ 0 (-1) 0 0 0 0 0 0 0) (cwV 1 hts g_X12_arm_X12_refuse_118 rfl rfl rfl (by decide +kernel) ⟨Nat.le_of_ble_eq_true rfl, Nat.le_of_ble_eq_true rfl⟩) (pv_ps hC hPc hDc (ci := 12) (q0 := 0) rfl rfl) rfl rfl hl.1 rfl (lv_room (Nat.le_of_ble_eq_true rfl)) dX12_arm_16 ⟨Nat.le_of_ble_eq_true rfl, Nat.le_of_ble_eq_true rfl⟩) hS (fun q _ h => hFc q h) hFc (fun r_ u t_ H1 locs ht hvm hw hB hz1 hk1 hS => ?_)
    obtain ⟨hP, hD⟩ := va_join (wr := []) (w1 := []) hP hD [0, 1] [] rfl rfl (by decide) (by decide) hk1 hFc va_P0 va_D0
    generalize H1 = H at hP hS ⊢
    have hP : va_P (dC, dI) vwCl ([]) H := hP
    have hD : va_D A ([]) := hD
    subst hw
    exact W.iret (v := (-2)) hx hb hr (fun t ht hW => ⟨⟨(-2), (), rfl, Or.inr (Or.inl (⟨c2_, c3_, rfl⟩)), trivial⟩, hS.F ht⟩) hS.2.2 dX12_arm_19
  · skip
    refine lv_if_ne (tgt := 20) hx hb dX12_arm_10 (by decide) (fun c9_ => absurd (by decide) c9_) (fun _ => ?_)
    refine lv_aload_n hx hb dX12_arm_13 rfl (lv_at hl 0 rfl) ?_
    refine lv_bipush (v := (-2)) hx hb dX12_arm_14 (by decide) ?_
    have hPc : va_P (dC, dI) vwCl ([(b 0, .inr (12, [.int 0, .int 0, .ref (b 1), .ref (b 2), .ref (b 3), .ref (b 4), .int 0, .ref (b 5), .ref (b 6), .int 0, .int 0, .int 0, .int (-1), .int 0, .ref (b 7), .ref (b 20), .int 0, .ref (b 21), .ref (b 22), .int 0, .int 0, .ref (b 23), .int 0, .int 0, .int 0, .int 0, .ref (b 24), .ref (b 25), .ref (b 26), .int 0, .ref (b 27), .int 0, .ref (b 28), .ref (b 29), .ref (b 30), .ref (b 31), .ref (b 32), .ref (b 33), .ref (b 34), .int 0, .int 0, .int 0, .int 0, .int 0, .int 0, .ref (b 35), .ref (b 36), .ref (b 37), .int 0, .int 0, .int 0, .ref (b 38), .int 0, .int 0, .ref (b 39), .ref (b 40), .ref (b 41), .ref (b 42), .int 0])), (b 1, .inl (cy 0, 8, .inl (fun _ => 0)))]) _ := hP.sub [0, 1] rfl
    have hDc := hD.sub (ws' := [(b 0, .inr (12, [.int 0, .int 0, .ref (b 1), .ref (b 2), .ref (b 3), .ref (b 4), .int 0, .ref (b 5), .ref (b 6), .int 0, .int 0, .int 0, .int (-1), .int 0, .ref (b 7), .ref (b 20), .int 0, .ref (b 21), .ref (b 22), .int 0, .int 0, .ref (b 23), .int 0, .int 0, .int 0, .int 0, .ref (b 24), .ref (b 25), .ref (b 26), .int 0, .ref (b 27), .int 0, .ref (b 28), .ref (b 29), .ref (b 30), .ref (b 31), .ref (b 32), .ref (b 33), .ref (b 34), .int 0, .int 0, .int 0, .int 0, .int 0, .int 0, .ref (b 35), .ref (b 36), .ref (b 37), .int 0, .int 0, .int 0, .ref (b 38), .int 0, .int 0, .ref (b 39), .ref (b 40), .ref (b 41), .ref (b 42), .int 0])), (b 1, .inl (cy 0, 8, .inl (fun _ => 0)))]) [0, 1] (by decide) rfl
    have hFc := va_free (wc := [(b 0, .inr (12, [.int 0, .int 0, .ref (b 1), .ref (b 2), .ref (b 3), .ref (b 4), .int 0, .ref (b 5), .ref (b 6), .int 0, .int 0, .int 0, .int (-1), .int 0, .ref (b 7), .ref (b 20), .int 0, .ref (b 21), .ref (b 22), .int 0, .int 0, .ref (b 23), .int 0, .int 0, .int 0, .int 0, .ref (b 24), .ref (b 25), .ref (b 26), .int 0, .ref (b 27), .int 0, .ref (b 28), .ref (b 29), .ref (b 30), .ref (b 31), .ref (b 32), .ref (b 33), .ref (b 34), .int 0, .int 0, .int 0, .int 0, .int 0, .int 0, .ref (b 35), .ref (b 36), .ref (b 37), .int 0, .int 0, .int 0, .ref (b 38), .int 0, .int 0, .ref (b 39), .ref (b 40), .ref (b 41), .ref (b 42), .int 0])), (b 1, .inl (cy 0, 8, .inl (fun _ => 0)))]) hD hS hA [0, 1] rfl
    refine va_calli (va_runV (As := [.int (-2)]) (rest := []) ⟨hx, hb, hml, hown, hts⟩ (c_X12_refuse_2 l dC dI cy b _ 0 (-1) 0 0 0 0 0 0 0) (cwV 1 hts g_X12_arm_X12_refuse_118 rfl rfl rfl (by decide +kernel) ⟨Nat.le_of_ble_eq_true rfl, Nat.le_of_ble_eq_true rfl⟩) (pv_ps hC hPc hDc (ci := 12) (q0 := 0) rfl rfl) rfl rfl hl.1 rfl (lv_room (Nat.le_of_ble_eq_true rfl)) dX12_arm_16 ⟨Nat.le_of_ble_eq_true rfl, Nat.le_of_ble_eq_true rfl⟩) hS (fun q _ h => hFc q h) hFc (fun r_ u t_ H1 locs ht hvm hw hB hz1 hk1 hS => ?_)
    obtain ⟨hP, hD⟩ := va_join (wr := []) (w1 := []) hP hD [0, 1] [] rfl rfl (by decide) (by decide) hk1 hFc va_P0 va_D0
    generalize H1 = H at hP hS ⊢
    have hP : va_P (dC, dI) vwCl ([]) H := hP
    have hD : va_D A ([]) := hD
    subst hw
    exact W.iret (v := (-2)) hx hb hr (fun t ht hW => ⟨⟨(-2), (), rfl, Or.inr (Or.inr (⟨c4_, c5_, c6_, rfl⟩)), trivial⟩, hS.F ht⟩) hS.2.2 dX12_arm_19

theorem dX12_disarm_0 : decode cX12_disarm 0 = .ok (.aload_n 0, 1) := by decide +kernel
theorem dX12_disarm_1 : decode cX12_disarm 1 = .ok (.iconst 0, 1) := by decide +kernel
theorem dX12_disarm_2 : decode cX12_disarm 2 = .ok (.putfield 105, 3) := by decide +kernel
theorem dX12_disarm_5 : decode cX12_disarm 5 = .ok (.aload_n 0, 1) := by decide +kernel
theorem dX12_disarm_6 : decode cX12_disarm 6 = .ok (.iload_n 1, 1) := by decide +kernel
theorem dX12_disarm_7 : decode cX12_disarm 7 = .ok (.invokevirtual 444, 3) := by decide +kernel
theorem dX12_disarm_10 : decode cX12_disarm 10 = .ok (.ifCond .ne 10, 3) := by decide +kernel
theorem dX12_disarm_13 : decode cX12_disarm 13 = .ok (.aload_n 0, 1) := by decide +kernel
theorem dX12_disarm_14 : decode cX12_disarm 14 = .ok (.bipush (-2), 2) := by decide +kernel
theorem dX12_disarm_16 : decode cX12_disarm 16 = .ok (.invokevirtual 118, 3) := by decide +kernel
theorem dX12_disarm_19 : decode cX12_disarm 19 = .ok (.ireturn, 1) := by decide +kernel
def v_X12_disarm : List Cond := .code yX12_disarm cX12_disarm 3 (some .int) :: ([.fieldLink RX12 105 "RestBoardModel" "thrown" "I", .methodLink RX12 444 yX12_isDevice, .instanceMethod yX12_isDevice, .selects RX12 yX12_isDevice yX12_isDevice, .initialized RX12, .code yX12_isDevice cX12_isDevice 2 (some .boolean), .methodLink RX12 143 yX12_isOf, .instanceMethod yX12_isOf, .selects RX12 yX12_isOf yX12_isOf, .code yX12_isOf cX12_isOf 3 (some .boolean), .methodLink RX12 132 yX12_isNode, .instanceMethod yX12_isNode, .selects RX12 yX12_isNode yX12_isNode, .code yX12_isNode cX12_isNode 2 (some .boolean), .fieldLink RX12 13 "RestBoardModel" "row" "[I", .methodLink RX12 128 yX12_in, .static yX12_in, .code yX12_in cX12_in 6 (some .boolean), .methodLink RX12 136 yX12_kind, .instanceMethod yX12_kind, .selects RX12 yX12_kind yX12_kind, .code yX12_kind cX12_kind 2 (some .int), .methodLink RX12 125 yX12_at, .static yX12_at, .code yX12_at cX12_at 1 (some .int), .methodLink RX12 118 yX12_refuse, .instanceMethod yX12_refuse, .selects RX12 yX12_refuse yX12_refuse, .code yX12_refuse cX12_refuse 2 (some .int), .fieldLink RX12 108 "RestBoardModel" "status" "I", .fieldLink RX12 7 "RestBoardModel" "refusals" "[I"] ++ wsX120)
theorem m_X12_disarm_0 : (.fieldLink RX12 105 "RestBoardModel" "thrown" "I" : Cond) ∈ v_X12_disarm := List.mem_of_getElem? (i := 1) (by decide +kernel)
theorem i_X12_disarm_X12 : ∀ w ∈ u_ws RX12 TX12 59, w ∈ v_X12_disarm := fun w h => List.mem_cons_of_mem _ (List.mem_append_right _ h)
set_option maxRecDepth 100000 in
theorem gg_X12_disarm_X12_isDevice_444 : GoodIn v_X12_disarm v_X12_isDevice := goodIn_r _ [6, 7, 8, 9, 5, 10, 11, 12, 13, 14, 15, 16, 17, 18, 19, 20, 21, 22, 23, 24, 25, 32, 33, 34, 35, 36, 37, 38, 39, 40, 41, 42, 43, 44, 45, 46, 47, 48, 49, 50, 51, 52, 53, 54, 55, 56, 57, 58, 59, 60, 61, 62, 63, 64, 65, 66, 67, 68, 69, 70, 71, 72, 73, 74, 75, 76, 77, 78, 79, 80, 81, 82, 83, 84, 85, 86, 87, 88, 89, 90] (by decide +kernel) (by decide +kernel)
set_option maxRecDepth 100000 in
theorem g_X12_disarm_X12_isDevice_444 : GoodIn v_X12_disarm (wsV RX12 444 RX12 yX12_isDevice v_X12_isDevice) := goodIn_app (goodIn_r _ [2, 3, 4, 5] (by decide +kernel) (by decide +kernel)) gg_X12_disarm_X12_isDevice_444
set_option maxRecDepth 100000 in
theorem gg_X12_disarm_X12_refuse_118 : GoodIn v_X12_disarm v_X12_refuse := goodIn_r _ [29, 30, 31, 32, 33, 34, 35, 36, 37, 38, 39, 40, 41, 42, 43, 44, 45, 46, 47, 48, 49, 50, 51, 52, 53, 54, 55, 56, 57, 58, 59, 60, 61, 62, 63, 64, 65, 66, 67, 68, 69, 70, 71, 72, 73, 74, 75, 76, 77, 78, 79, 80, 81, 82, 83, 84, 85, 86, 87, 88, 89, 90] (by decide +kernel) (by decide +kernel)
set_option maxRecDepth 100000 in
theorem g_X12_disarm_X12_refuse_118 : GoodIn v_X12_disarm (wsV RX12 118 RX12 yX12_refuse v_X12_refuse) := goodIn_app (goodIn_r _ [26, 27, 28, 5] (by decide +kernel) (by decide +kernel)) gg_X12_disarm_X12_refuse_118
set_option maxHeartbeats 4000000 in
set_option maxRecDepth 100000 in
theorem c_X12_disarm (l : Launch) (dC : Nat → ClassId) (dI : Nat → Nat → Nat) (cy : Nat → ClassId) (b : Nat → Nat) (sz : Nat) (p0 : Int32) : Met l yX12_disarm v_X12_disarm ({ frames := 4, cells := 0, slots := 0, locals := 89 }) (va_Pc [.ref (b 0), .int p0] (ps dC dI cy (mw b cy) sz)) (va_Qi (fun (r : Int32) (_ : Unit) => ((p0 = 0) ∧ r = (-2)) ∨ ((¬ p0 = 0) ∧ (p0 < 0) ∧ r = (-2)) ∨ ((¬ p0 = 0) ∧ (¬ p0 < 0) ∧ ((0 : Int32) < p0) ∧ r = (-2))) (fun _ _ => True) (va_A (mw b cy) sz)) 0 0 (va_A (mw b cy) sz) := by
  refine Met.ofW (cc := cX12_disarm) (maxL := 3) (ret := (some .int)) (by decide) rfl ?_
  intro p e s m args below meth c s₁ B hml hv
  obtain ⟨rfl, hsz, hP, hC, hD0⟩ := hv
  have hK := hC.1
  have hx := B.exec
  have hb := B.bytes
  have hr := B.returns
  have hts := atoms_spec (ws := v_X12_disarm) B.pre
  have hown : s.vm.findClass RX12 = some m.cls := findClass_of_methodNamed B.named
  have hlocks := B.notSynchronized
  subst hsz
  have hD := hD0.self (sz := s.heap.size)
  generalize hAe : va_A (mw b cy) s.heap.size = A at hD ⊢
  have hA : ∀ q : Nat, s.heap.size ≤ q → A q := fun q h => by rw [← hAe]; exact Or.inr h
  have hS : va_S A s.heap s.heap [] := va_S.rf
  have hl := lv_entry ([.ref (b 0), .int p0]) (n := 3) (Nat.le_of_ble_eq_true rfl)
  rw [lg_entry_eq]
  generalize (lg_sl ([.ref (b 0), .int p0]) ++ List.replicate (3 - (lg_sl ([.ref (b 0), .int p0])).length) Slot.unset).toArray = ls at hl ⊢
  have hl : lv_has ls 3 [(0, .ref (b 0)), (1, .int p0)] := hl
  refine lv_aload_n hx hb dX12_disarm_0 rfl (lv_at hl 0 rfl) ?_
  refine lv_iconst (v := 0) hx hb dX12_disarm_1 (by decide) ?_
  refine va_put (D := (dC, dI)) (ci := 12) (v := .int 0) (ty := .int) (C := RX12) (T := TX12) (N := 59) hx hb hts i_X12_disarm_X12 tyX12 tyX12_ok nmX12 hown hK hP hD hS 0 rfl rfl 0 (by decide) (hts _ m_X12_disarm_0) (fun _ h9 => h9) rfl (by decide +kernel) rfl rfl (Nat.le_of_ble_eq_true rfl) dX12_disarm_2 (fun H locs hP hD hS => ?_)
  have hP : va_P (dC, dI) vwCl (mw b cy) H := hP
  have hD : va_D A (mw b cy) := hD
  refine lv_aload_n hx hb dX12_disarm_5 rfl (lv_at hl 0 rfl) ?_
  refine lv_iload_n hx hb dX12_disarm_6 rfl (lv_at hl 1 rfl) ?_
  refine tk_pi (va_runV (As := [.int p0]) (rest := []) ⟨hx, hb, hml, hown, hts⟩ (c_X12_isDevice l dC dI cy b p0) (cwV 1 hts g_X12_disarm_X12_isDevice_444 rfl rfl rfl (by decide +kernel) ⟨Nat.le_of_ble_eq_true rfl, Nat.le_of_ble_eq_true rfl⟩) (pv_pp hC hP (ci := 12) (q0 := 0) rfl rfl) rfl rfl hl.1 rfl (lv_room (Nat.le_of_ble_eq_true rfl)) dX12_disarm_7 ⟨Nat.le_of_ble_eq_true rfl, Nat.le_of_ble_eq_true rfl⟩) hP hS (fun r_ H locs hw hP hS => ?_)
  rcases hw with ⟨c1_, rfl⟩ | ⟨c2_, c3_, rfl⟩ | ⟨c4_, c5_, c6_, rfl⟩
  · skip
    subst c1_
    refine lv_if_ne (tgt := 20) hx hb dX12_disarm_10 (by decide) (fun c9_ => absurd (by decide) c9_) (fun _ => ?_)
    refine lv_aload_n hx hb dX12_disarm_13 rfl (lv_at hl 0 rfl) ?_
    refine lv_bipush (v := (-2)) hx hb dX12_disarm_14 (by decide) ?_
    have hPc : va_P (dC, dI) vwCl ([(b 0, .inr (12, [.int 0, .int 0, .ref (b 1), .ref (b 2), .ref (b 3), .ref (b 4), .int 0, .ref (b 5), .ref (b 6), .int 0, .int 0, .int 0, .int (-1), .int 0, .ref (b 7), .ref (b 20), .int 0, .ref (b 21), .ref (b 22), .int 0, .int 0, .ref (b 23), .int 0, .int 0, .int 0, .int 0, .ref (b 24), .ref (b 25), .ref (b 26), .int 0, .ref (b 27), .int 0, .ref (b 28), .ref (b 29), .ref (b 30), .ref (b 31), .ref (b 32), .ref (b 33), .ref (b 34), .int 0, .int 0, .int 0, .int 0, .int 0, .int 0, .ref (b 35), .ref (b 36), .ref (b 37), .int 0, .int 0, .int 0, .ref (b 38), .int 0, .int 0, .ref (b 39), .ref (b 40), .ref (b 41), .ref (b 42), .int 0])), (b 1, .inl (cy 0, 8, .inl (fun _ => 0)))]) _ := hP.sub [0, 1] rfl
    have hDc := hD.sub (ws' := [(b 0, .inr (12, [.int 0, .int 0, .ref (b 1), .ref (b 2), .ref (b 3), .ref (b 4), .int 0, .ref (b 5), .ref (b 6), .int 0, .int 0, .int 0, .int (-1), .int 0, .ref (b 7), .ref (b 20), .int 0, .ref (b 21), .ref (b 22), .int 0, .int 0, .ref (b 23), .int 0, .int 0, .int 0, .int 0, .ref (b 24), .ref (b 25), .ref (b 26), .int 0, .ref (b 27), .int 0, .ref (b 28), .ref (b 29), .ref (b 30), .ref (b 31), .ref (b 32), .ref (b 33), .ref (b 34), .int 0, .int 0, .int 0, .int 0, .int 0, .int 0, .ref (b 35), .ref (b 36), .ref (b 37), .int 0, .int 0, .int 0, .ref (b 38), .int 0, .int 0, .ref (b 39), .ref (b 40), .ref (b 41), .ref (b 42), .int 0])), (b 1, .inl (cy 0, 8, .inl (fun _ => 0)))]) [0, 1] (by decide) rfl
    have hFc := va_free (wc := [(b 0, .inr (12, [.int 0, .int 0, .ref (b 1), .ref (b 2), .ref (b 3), .ref (b 4), .int 0, .ref (b 5), .ref (b 6), .int 0, .int 0, .int 0, .int (-1), .int 0, .ref (b 7), .ref (b 20), .int 0, .ref (b 21), .ref (b 22), .int 0, .int 0, .ref (b 23), .int 0, .int 0, .int 0, .int 0, .ref (b 24), .ref (b 25), .ref (b 26), .int 0, .ref (b 27), .int 0, .ref (b 28), .ref (b 29), .ref (b 30), .ref (b 31), .ref (b 32), .ref (b 33), .ref (b 34), .int 0, .int 0, .int 0, .int 0, .int 0, .int 0, .ref (b 35), .ref (b 36), .ref (b 37), .int 0, .int 0, .int 0, .ref (b 38), .int 0, .int 0, .ref (b 39), .ref (b 40), .ref (b 41), .ref (b 42), .int 0])), (b 1, .inl (cy 0, 8, .inl (fun _ => 0)))]) hD hS hA [0, 1] rfl
    refine va_calli (va_runV (As := [.int (-2)]) (rest := []) ⟨hx, hb, hml, hown, hts⟩ (c_X12_refuse_2 l dC dI cy b _ 0 (-1) 0 0 0 0 0 0 0) (cwV 1 hts g_X12_disarm_X12_refuse_118 rfl rfl rfl (by decide +kernel) ⟨Nat.le_of_ble_eq_true rfl, Nat.le_of_ble_eq_true rfl⟩) (pv_ps hC hPc hDc (ci := 12) (q0 := 0) rfl rfl) rfl rfl hl.1 rfl (lv_room (Nat.le_of_ble_eq_true rfl)) dX12_disarm_16 ⟨Nat.le_of_ble_eq_true rfl, Nat.le_of_ble_eq_true rfl⟩) hS (fun q _ h => hFc q h) hFc (fun r_ u t_ H1 locs ht hvm hw hB hz1 hk1 hS => ?_)
    obtain ⟨hP, hD⟩ := va_join (wr := []) (w1 := []) hP hD [0, 1] [] rfl rfl (by decide) (by decide) hk1 hFc va_P0 va_D0
    generalize H1 = H at hP hS ⊢
    have hP : va_P (dC, dI) vwCl ([]) H := hP
    have hD : va_D A ([]) := hD
    subst hw
    exact W.iret (v := (-2)) hx hb hr (fun t ht hW => ⟨⟨(-2), (), rfl, Or.inl (⟨rfl, rfl⟩), trivial⟩, hS.F ht⟩) hS.2.2 dX12_disarm_19
  · skip
    refine lv_if_ne (tgt := 20) hx hb dX12_disarm_10 (by decide) (fun c9_ => absurd (by decide) c9_) (fun _ => ?_)
    refine lv_aload_n hx hb dX12_disarm_13 rfl (lv_at hl 0 rfl) ?_
    refine lv_bipush (v := (-2)) hx hb dX12_disarm_14 (by decide) ?_
    have hPc : va_P (dC, dI) vwCl ([(b 0, .inr (12, [.int 0, .int 0, .ref (b 1), .ref (b 2), .ref (b 3), .ref (b 4), .int 0, .ref (b 5), .ref (b 6), .int 0, .int 0, .int 0, .int (-1), .int 0, .ref (b 7), .ref (b 20), .int 0, .ref (b 21), .ref (b 22), .int 0, .int 0, .ref (b 23), .int 0, .int 0, .int 0, .int 0, .ref (b 24), .ref (b 25), .ref (b 26), .int 0, .ref (b 27), .int 0, .ref (b 28), .ref (b 29), .ref (b 30), .ref (b 31), .ref (b 32), .ref (b 33), .ref (b 34), .int 0, .int 0, .int 0, .int 0, .int 0, .int 0, .ref (b 35), .ref (b 36), .ref (b 37), .int 0, .int 0, .int 0, .ref (b 38), .int 0, .int 0, .ref (b 39), .ref (b 40), .ref (b 41), .ref (b 42), .int 0])), (b 1, .inl (cy 0, 8, .inl (fun _ => 0)))]) _ := hP.sub [0, 1] rfl
    have hDc := hD.sub (ws' := [(b 0, .inr (12, [.int 0, .int 0, .ref (b 1), .ref (b 2), .ref (b 3), .ref (b 4), .int 0, .ref (b 5), .ref (b 6), .int 0, .int 0, .int 0, .int (-1), .int 0, .ref (b 7), .ref (b 20), .int 0, .ref (b 21), .ref (b 22), .int 0, .int 0, .ref (b 23), .int 0, .int 0, .int 0, .int 0, .ref (b 24), .ref (b 25), .ref (b 26), .int 0, .ref (b 27), .int 0, .ref (b 28), .ref (b 29), .ref (b 30), .ref (b 31), .ref (b 32), .ref (b 33), .ref (b 34), .int 0, .int 0, .int 0, .int 0, .int 0, .int 0, .ref (b 35), .ref (b 36), .ref (b 37), .int 0, .int 0, .int 0, .ref (b 38), .int 0, .int 0, .ref (b 39), .ref (b 40), .ref (b 41), .ref (b 42), .int 0])), (b 1, .inl (cy 0, 8, .inl (fun _ => 0)))]) [0, 1] (by decide) rfl
    have hFc := va_free (wc := [(b 0, .inr (12, [.int 0, .int 0, .ref (b 1), .ref (b 2), .ref (b 3), .ref (b 4), .int 0, .ref (b 5), .ref (b 6), .int 0, .int 0, .int 0, .int (-1), .int 0, .ref (b 7), .ref (b 20), .int 0, .ref (b 21), .ref (b 22), .int 0, .int 0, .ref (b 23), .int 0, .int 0, .int 0, .int 0, .ref (b 24), .ref (b 25), .ref (b 26), .int 0, .ref (b 27), .int 0, .ref (b 28), .ref (b 29), .ref (b 30), .ref (b 31), .ref (b 32), .ref (b 33), .ref (b 34), .int 0, .int 0, .int 0, .int 0, .int 0, .int 0, .ref (b 35), .ref (b 36), .ref (b 37), .int 0, .int 0, .int 0, .ref (b 38), .int 0, .int 0, .ref (b 39), .ref (b 40), .ref (b 41), .ref (b 42), .int 0])), (b 1, .inl (cy 0, 8, .inl (fun _ => 0)))]) hD hS hA [0, 1] rfl
    refine va_calli (va_runV (As := [.int (-2)]) (rest := []) ⟨hx, hb, hml, hown, hts⟩ (c_X12_refuse_2 l dC dI cy b _ 0 (-1) 0 0 0 0 0 0 0) (cwV 1 hts g_X12_disarm_X12_refuse_118 rfl rfl rfl (by decide +kernel) ⟨Nat.le_of_ble_eq_true rfl, Nat.le_of_ble_eq_true rfl⟩) (pv_ps hC hPc hDc (ci := 12) (q0 := 0) rfl rfl) rfl rfl hl.1 rfl (lv_room (Nat.le_of_ble_eq_true rfl)) dX12_disarm_16 ⟨Nat.le_of_ble_eq_true rfl, Nat.le_of_ble_eq_true rfl⟩) hS (fun q _ h => hFc q h) hFc (fun r_ u t_ H1 locs ht hvm hw hB hz1 hk1 hS => ?_)
    obtain ⟨hP, hD⟩ := va_join (wr := []) (w1 := []) hP hD [0, 1] [] rfl rfl (by decide) (by decide) hk1 hFc va_P0 va_D0
    generalize H1 = H at hP hS ⊢
    have hP : va_P (dC, dI) vwCl ([]) H := hP
    have hD : va_D A ([]) := hD
    subst hw
    exact W.iret (v := (-2)) hx hb hr (fun t ht hW => ⟨⟨(-2), (), rfl, Or.inr (Or.inl (⟨c2_, c3_, rfl⟩)), trivial⟩, hS.F ht⟩) hS.2.2 dX12_disarm_19
  · skip
    refine lv_if_ne (tgt := 20) hx hb dX12_disarm_10 (by decide) (fun c9_ => absurd (by decide) c9_) (fun _ => ?_)
    refine lv_aload_n hx hb dX12_disarm_13 rfl (lv_at hl 0 rfl) ?_
    refine lv_bipush (v := (-2)) hx hb dX12_disarm_14 (by decide) ?_
    have hPc : va_P (dC, dI) vwCl ([(b 0, .inr (12, [.int 0, .int 0, .ref (b 1), .ref (b 2), .ref (b 3), .ref (b 4), .int 0, .ref (b 5), .ref (b 6), .int 0, .int 0, .int 0, .int (-1), .int 0, .ref (b 7), .ref (b 20), .int 0, .ref (b 21), .ref (b 22), .int 0, .int 0, .ref (b 23), .int 0, .int 0, .int 0, .int 0, .ref (b 24), .ref (b 25), .ref (b 26), .int 0, .ref (b 27), .int 0, .ref (b 28), .ref (b 29), .ref (b 30), .ref (b 31), .ref (b 32), .ref (b 33), .ref (b 34), .int 0, .int 0, .int 0, .int 0, .int 0, .int 0, .ref (b 35), .ref (b 36), .ref (b 37), .int 0, .int 0, .int 0, .ref (b 38), .int 0, .int 0, .ref (b 39), .ref (b 40), .ref (b 41), .ref (b 42), .int 0])), (b 1, .inl (cy 0, 8, .inl (fun _ => 0)))]) _ := hP.sub [0, 1] rfl
    have hDc := hD.sub (ws' := [(b 0, .inr (12, [.int 0, .int 0, .ref (b 1), .ref (b 2), .ref (b 3), .ref (b 4), .int 0, .ref (b 5), .ref (b 6), .int 0, .int 0, .int 0, .int (-1), .int 0, .ref (b 7), .ref (b 20), .int 0, .ref (b 21), .ref (b 22), .int 0, .int 0, .ref (b 23), .int 0, .int 0, .int 0, .int 0, .ref (b 24), .ref (b 25), .ref (b 26), .int 0, .ref (b 27), .int 0, .ref (b 28), .ref (b 29), .ref (b 30), .ref (b 31), .ref (b 32), .ref (b 33), .ref (b 34), .int 0, .int 0, .int 0, .int 0, .int 0, .int 0, .ref (b 35), .ref (b 36), .ref (b 37), .int 0, .int 0, .int 0, .ref (b 38), .int 0, .int 0, .ref (b 39), .ref (b 40), .ref (b 41), .ref (b 42), .int 0])), (b 1, .inl (cy 0, 8, .inl (fun _ => 0)))]) [0, 1] (by decide) rfl
    have hFc := va_free (wc := [(b 0, .inr (12, [.int 0, .int 0, .ref (b 1), .ref (b 2), .ref (b 3), .ref (b 4), .int 0, .ref (b 5), .ref (b 6), .int 0, .int 0, .int 0, .int (-1), .int 0, .ref (b 7), .ref (b 20), .int 0, .ref (b 21), .ref (b 22), .int 0, .int 0, .ref (b 23), .int 0, .int 0, .int 0, .int 0, .ref (b 24), .ref (b 25), .ref (b 26), .int 0, .ref (b 27), .int 0, .ref (b 28), .ref (b 29), .ref (b 30), .ref (b 31), .ref (b 32), .ref (b 33), .ref (b 34), .int 0, .int 0, .int 0, .int 0, .int 0, .int 0, .ref (b 35), .ref (b 36), .ref (b 37), .int 0, .int 0, .int 0, .ref (b 38), .int 0, .int 0, .ref (b 39), .ref (b 40), .ref (b 41), .ref (b 42), .int 0])), (b 1, .inl (cy 0, 8, .inl (fun _ => 0)))]) hD hS hA [0, 1] rfl
    refine va_calli (va_runV (As := [.int (-2)]) (rest := []) ⟨hx, hb, hml, hown, hts⟩ (c_X12_refuse_2 l dC dI cy b _ 0 (-1) 0 0 0 0 0 0 0) (cwV 1 hts g_X12_disarm_X12_refuse_118 rfl rfl rfl (by decide +kernel) ⟨Nat.le_of_ble_eq_true rfl, Nat.le_of_ble_eq_true rfl⟩) (pv_ps hC hPc hDc (ci := 12) (q0 := 0) rfl rfl) rfl rfl hl.1 rfl (lv_room (Nat.le_of_ble_eq_true rfl)) dX12_disarm_16 ⟨Nat.le_of_ble_eq_true rfl, Nat.le_of_ble_eq_true rfl⟩) hS (fun q _ h => hFc q h) hFc (fun r_ u t_ H1 locs ht hvm hw hB hz1 hk1 hS => ?_)
    obtain ⟨hP, hD⟩ := va_join (wr := []) (w1 := []) hP hD [0, 1] [] rfl rfl (by decide) (by decide) hk1 hFc va_P0 va_D0
    generalize H1 = H at hP hS ⊢
    have hP : va_P (dC, dI) vwCl ([]) H := hP
    have hD : va_D A ([]) := hD
    subst hw
    exact W.iret (v := (-2)) hx hb hr (fun t ht hW => ⟨⟨(-2), (), rfl, Or.inr (Or.inr (⟨c4_, c5_, c6_, rfl⟩)), trivial⟩, hS.F ht⟩) hS.2.2 dX12_disarm_19

theorem dX12_rest_0 : decode cX12_rest 0 = .ok (.aload_n 0, 1) := by decide +kernel
theorem dX12_rest_1 : decode cX12_rest 1 = .ok (.iconst 0, 1) := by decide +kernel
theorem dX12_rest_2 : decode cX12_rest 2 = .ok (.putfield 105, 3) := by decide +kernel
theorem dX12_rest_5 : decode cX12_rest 5 = .ok (.aload_n 0, 1) := by decide +kernel
theorem dX12_rest_6 : decode cX12_rest 6 = .ok (.iload_n 1, 1) := by decide +kernel
theorem dX12_rest_7 : decode cX12_rest 7 = .ok (.invokevirtual 500, 3) := by decide +kernel
theorem dX12_rest_10 : decode cX12_rest 10 = .ok (.istore_n 2, 1) := by decide +kernel
theorem dX12_rest_11 : decode cX12_rest 11 = .ok (.iload_n 2, 1) := by decide +kernel
theorem dX12_rest_12 : decode cX12_rest 12 = .ok (.ifCond .ge 9, 3) := by decide +kernel
theorem dX12_rest_15 : decode cX12_rest 15 = .ok (.aload_n 0, 1) := by decide +kernel
theorem dX12_rest_16 : decode cX12_rest 16 = .ok (.iload_n 2, 1) := by decide +kernel
theorem dX12_rest_17 : decode cX12_rest 17 = .ok (.invokevirtual 118, 3) := by decide +kernel
theorem dX12_rest_20 : decode cX12_rest 20 = .ok (.ireturn, 1) := by decide +kernel
def v_X12_rest : List Cond := .code yX12_rest cX12_rest 4 (some .int) :: ([.fieldLink RX12 105 "RestBoardModel" "thrown" "I", .methodLink RX12 500 yX12_whyRest, .instanceMethod yX12_whyRest, .selects RX12 yX12_whyRest yX12_whyRest, .initialized RX12, .code yX12_whyRest cX12_whyRest 2 (some .int), .constantLong RX12 462 (4), .fieldLink RX12 13 "RestBoardModel" "row" "[I", .methodLink RX12 128 yX12_in, .static yX12_in, .code yX12_in cX12_in 6 (some .boolean), .methodLink RX12 497 yX12_whyNot, .instanceMethod yX12_whyNot, .selects RX12 yX12_whyNot yX12_whyNot, .code yX12_whyNot cX12_whyNot 6 (some .int), .methodLink RX12 467 yX12_restNumber, .instanceMethod yX12_restNumber, .selects RX12 yX12_restNumber yX12_restNumber, .code yX12_restNumber cX12_restNumber 2 (some .int), .methodLink RX12 409 yX12_ownOf, .instanceMethod yX12_ownOf, .selects RX12 yX12_ownOf yX12_ownOf, .code yX12_ownOf cX12_ownOf 5 (some .int), .methodLink RX12 139 yX12_own, .instanceMethod yX12_own, .selects RX12 yX12_own yX12_own, .code yX12_own cX12_own 5 (some .int), .methodLink RX12 118 yX12_refuse, .instanceMethod yX12_refuse, .selects RX12 yX12_refuse yX12_refuse, .code yX12_refuse cX12_refuse 2 (some .int), .fieldLink RX12 108 "RestBoardModel" "status" "I", .fieldLink RX12 7 "RestBoardModel" "refusals" "[I"] ++ wsX120)
theorem m_X12_rest_0 : (.fieldLink RX12 105 "RestBoardModel" "thrown" "I" : Cond) ∈ v_X12_rest := List.mem_of_getElem? (i := 1) (by decide +kernel)
theorem i_X12_rest_X12 : ∀ w ∈ u_ws RX12 TX12 59, w ∈ v_X12_rest := fun w h => List.mem_cons_of_mem _ (List.mem_append_right _ h)
set_option maxRecDepth 100000 in
theorem gg_X12_rest_X12_whyRest_500 : GoodIn v_X12_rest v_X12_whyRest := goodIn_r _ [6, 7, 8, 9, 10, 5, 11, 12, 13, 14, 15, 16, 17, 18, 19, 20, 21, 22, 23, 24, 25, 26, 27, 34, 35, 36, 37, 38, 39, 40, 41, 42, 43, 44, 45, 46, 47, 48, 49, 50, 51, 52, 53, 54, 55, 56, 57, 58, 59, 60, 61, 62, 63, 64, 65, 66, 67, 68, 69, 70, 71, 72, 73, 74, 75, 76, 77, 78, 79, 80, 81, 82, 83, 84, 85, 86, 87, 88, 89, 90, 91, 92] (by decide +kernel) (by decide +kernel)
set_option maxRecDepth 100000 in
theorem g_X12_rest_X12_whyRest_500 : GoodIn v_X12_rest (wsV RX12 500 RX12 yX12_whyRest v_X12_whyRest) := goodIn_app (goodIn_r _ [2, 3, 4, 5] (by decide +kernel) (by decide +kernel)) gg_X12_rest_X12_whyRest_500
set_option maxRecDepth 100000 in
theorem gg_X12_rest_X12_refuse_118 : GoodIn v_X12_rest v_X12_refuse := goodIn_r _ [31, 32, 33, 34, 35, 36, 37, 38, 39, 40, 41, 42, 43, 44, 45, 46, 47, 48, 49, 50, 51, 52, 53, 54, 55, 56, 57, 58, 59, 60, 61, 62, 63, 64, 65, 66, 67, 68, 69, 70, 71, 72, 73, 74, 75, 76, 77, 78, 79, 80, 81, 82, 83, 84, 85, 86, 87, 88, 89, 90, 91, 92] (by decide +kernel) (by decide +kernel)
set_option maxRecDepth 100000 in
theorem g_X12_rest_X12_refuse_118 : GoodIn v_X12_rest (wsV RX12 118 RX12 yX12_refuse v_X12_refuse) := goodIn_app (goodIn_r _ [28, 29, 30, 5] (by decide +kernel) (by decide +kernel)) gg_X12_rest_X12_refuse_118
set_option maxHeartbeats 4000000 in
set_option maxRecDepth 100000 in
theorem c_X12_rest (l : Launch) (dC : Nat → ClassId) (dI : Nat → Nat → Nat) (cy : Nat → ClassId) (b : Nat → Nat) (sz : Nat) (p0 : Int32) : Met l yX12_rest v_X12_rest ({ frames := 5, cells := 0, slots := 0, locals := 115 }) (va_Pc [.ref (b 0), .int p0] (ps dC dI cy (mw b cy) sz)) (va_Qi (fun (r : Int32) (_ : Unit) => ((p0 < 1) ∧ r = (-1)) ∨ ((¬ p0 < 1) ∧ ((4 : Int32) < p0) ∧ r = (-1)) ∨ ((¬ p0 < 1) ∧ (¬ (4 : Int32) < p0) ∧ r = (-4))) (fun _ _ => True) (va_A (mw b cy) sz)) 0 0 (va_A (mw b cy) sz) := by
  refine Met.ofW (cc := cX12_rest) (maxL := 4) (ret := (some .int)) (by decide) rfl ?_
  intro p e s m args below meth c s₁ B hml hv
  obtain ⟨rfl, hsz, hP, hC, hD0⟩ := hv
  have hK := hC.1
  have hx := B.exec
  have hb := B.bytes
  have hr := B.returns
  have hts := atoms_spec (ws := v_X12_rest) B.pre
  have hown : s.vm.findClass RX12 = some m.cls := findClass_of_methodNamed B.named
  have hlocks := B.notSynchronized
  subst hsz
  have hD := hD0.self (sz := s.heap.size)
  generalize hAe : va_A (mw b cy) s.heap.size = A at hD ⊢
  have hA : ∀ q : Nat, s.heap.size ≤ q → A q := fun q h => by rw [← hAe]; exact Or.inr h
  have hS : va_S A s.heap s.heap [] := va_S.rf
  have hl := lv_entry ([.ref (b 0), .int p0]) (n := 4) (Nat.le_of_ble_eq_true rfl)
  rw [lg_entry_eq]
  generalize (lg_sl ([.ref (b 0), .int p0]) ++ List.replicate (4 - (lg_sl ([.ref (b 0), .int p0])).length) Slot.unset).toArray = ls at hl ⊢
  have hl : lv_has ls 4 [(0, .ref (b 0)), (1, .int p0)] := hl
  refine lv_aload_n hx hb dX12_rest_0 rfl (lv_at hl 0 rfl) ?_
  refine lv_iconst (v := 0) hx hb dX12_rest_1 (by decide) ?_
  refine va_put (D := (dC, dI)) (ci := 12) (v := .int 0) (ty := .int) (C := RX12) (T := TX12) (N := 59) hx hb hts i_X12_rest_X12 tyX12 tyX12_ok nmX12 hown hK hP hD hS 0 rfl rfl 0 (by decide) (hts _ m_X12_rest_0) (fun _ h9 => h9) rfl (by decide +kernel) rfl rfl (Nat.le_of_ble_eq_true rfl) dX12_rest_2 (fun H locs hP hD hS => ?_)
  have hP : va_P (dC, dI) vwCl (mw b cy) H := hP
  have hD : va_D A (mw b cy) := hD
  refine lv_aload_n hx hb dX12_rest_5 rfl (lv_at hl 0 rfl) ?_
  refine lv_iload_n hx hb dX12_rest_6 rfl (lv_at hl 1 rfl) ?_
  refine tk_pi (va_runV (As := [.int p0]) (rest := []) ⟨hx, hb, hml, hown, hts⟩ (c_X12_whyRest l dC dI cy b p0) (cwV 1 hts g_X12_rest_X12_whyRest_500 rfl rfl rfl (by decide +kernel) ⟨Nat.le_of_ble_eq_true rfl, Nat.le_of_ble_eq_true rfl⟩) (pv_pp hC hP (ci := 12) (q0 := 0) rfl rfl) rfl rfl hl.1 rfl (lv_room (Nat.le_of_ble_eq_true rfl)) dX12_rest_7 ⟨Nat.le_of_ble_eq_true rfl, Nat.le_of_ble_eq_true rfl⟩) hP hS (fun r_ H locs hw hP hS => ?_)
  rcases hw with ⟨c1_, rfl⟩ | ⟨c2_, c3_, rfl⟩ | ⟨c4_, c5_, rfl⟩
  · skip
    refine lv_istore_n (lv' := [(2, .int (-1)), (0, .ref (b 0)), (1, .int p0)]) hx hb dX12_rest_10 rfl hl (by decide) rfl (fun ls hl => ?_)
    refine lv_iload_n hx hb dX12_rest_11 rfl (lv_at hl 0 rfl) ?_
    refine lv_if_ge (tgt := 21) hx hb dX12_rest_12 (by decide) (fun c9_ => absurd c9_ (by decide)) (fun _ => ?_)
    refine lv_aload_n hx hb dX12_rest_15 rfl (lv_at hl 1 rfl) ?_
    refine lv_iload_n hx hb dX12_rest_16 rfl (lv_at hl 0 rfl) ?_
    have hPc : va_P (dC, dI) vwCl ([(b 0, .inr (12, [.int 0, .int 0, .ref (b 1), .ref (b 2), .ref (b 3), .ref (b 4), .int 0, .ref (b 5), .ref (b 6), .int 0, .int 0, .int 0, .int (-1), .int 0, .ref (b 7), .ref (b 20), .int 0, .ref (b 21), .ref (b 22), .int 0, .int 0, .ref (b 23), .int 0, .int 0, .int 0, .int 0, .ref (b 24), .ref (b 25), .ref (b 26), .int 0, .ref (b 27), .int 0, .ref (b 28), .ref (b 29), .ref (b 30), .ref (b 31), .ref (b 32), .ref (b 33), .ref (b 34), .int 0, .int 0, .int 0, .int 0, .int 0, .int 0, .ref (b 35), .ref (b 36), .ref (b 37), .int 0, .int 0, .int 0, .ref (b 38), .int 0, .int 0, .ref (b 39), .ref (b 40), .ref (b 41), .ref (b 42), .int 0])), (b 1, .inl (cy 0, 8, .inl (fun _ => 0)))]) _ := hP.sub [0, 1] rfl
    have hDc := hD.sub (ws' := [(b 0, .inr (12, [.int 0, .int 0, .ref (b 1), .ref (b 2), .ref (b 3), .ref (b 4), .int 0, .ref (b 5), .ref (b 6), .int 0, .int 0, .int 0, .int (-1), .int 0, .ref (b 7), .ref (b 20), .int 0, .ref (b 21), .ref (b 22), .int 0, .int 0, .ref (b 23), .int 0, .int 0, .int 0, .int 0, .ref (b 24), .ref (b 25), .ref (b 26), .int 0, .ref (b 27), .int 0, .ref (b 28), .ref (b 29), .ref (b 30), .ref (b 31), .ref (b 32), .ref (b 33), .ref (b 34), .int 0, .int 0, .int 0, .int 0, .int 0, .int 0, .ref (b 35), .ref (b 36), .ref (b 37), .int 0, .int 0, .int 0, .ref (b 38), .int 0, .int 0, .ref (b 39), .ref (b 40), .ref (b 41), .ref (b 42), .int 0])), (b 1, .inl (cy 0, 8, .inl (fun _ => 0)))]) [0, 1] (by decide) rfl
    have hFc := va_free (wc := [(b 0, .inr (12, [.int 0, .int 0, .ref (b 1), .ref (b 2), .ref (b 3), .ref (b 4), .int 0, .ref (b 5), .ref (b 6), .int 0, .int 0, .int 0, .int (-1), .int 0, .ref (b 7), .ref (b 20), .int 0, .ref (b 21), .ref (b 22), .int 0, .int 0, .ref (b 23), .int 0, .int 0, .int 0, .int 0, .ref (b 24), .ref (b 25), .ref (b 26), .int 0, .ref (b 27), .int 0, .ref (b 28), .ref (b 29), .ref (b 30), .ref (b 31), .ref (b 32), .ref (b 33), .ref (b 34), .int 0, .int 0, .int 0, .int 0, .int 0, .int 0, .ref (b 35), .ref (b 36), .ref (b 37), .int 0, .int 0, .int 0, .ref (b 38), .int 0, .int 0, .ref (b 39), .ref (b 40), .ref (b 41), .ref (b 42), .int 0])), (b 1, .inl (cy 0, 8, .inl (fun _ => 0)))]) hD hS hA [0, 1] rfl
    refine va_calli (va_runV (As := [.int (-1)]) (rest := []) ⟨hx, hb, hml, hown, hts⟩ (c_X12_refuse_1 l dC dI cy b _ 0 (-1) 0 0 0 0 0 0 0) (cwV 1 hts g_X12_rest_X12_refuse_118 rfl rfl rfl (by decide +kernel) ⟨Nat.le_of_ble_eq_true rfl, Nat.le_of_ble_eq_true rfl⟩) (pv_ps hC hPc hDc (ci := 12) (q0 := 0) rfl rfl) rfl rfl hl.1 rfl (lv_room (Nat.le_of_ble_eq_true rfl)) dX12_rest_17 ⟨Nat.le_of_ble_eq_true rfl, Nat.le_of_ble_eq_true rfl⟩) hS (fun q _ h => hFc q h) hFc (fun r_ u t_ H1 locs ht hvm hw hB hz1 hk1 hS => ?_)
    obtain ⟨hP, hD⟩ := va_join (wr := []) (w1 := []) hP hD [0, 1] [] rfl rfl (by decide) (by decide) hk1 hFc va_P0 va_D0
    generalize H1 = H at hP hS ⊢
    have hP : va_P (dC, dI) vwCl ([]) H := hP
    have hD : va_D A ([]) := hD
    subst hw
    exact W.iret (v := (-1)) hx hb hr (fun t ht hW => ⟨⟨(-1), (), rfl, Or.inl (⟨c1_, rfl⟩), trivial⟩, hS.F ht⟩) hS.2.2 dX12_rest_20
  · skip
    refine lv_istore_n (lv' := [(2, .int (-1)), (0, .ref (b 0)), (1, .int p0)]) hx hb dX12_rest_10 rfl hl (by decide) rfl (fun ls hl => ?_)
    refine lv_iload_n hx hb dX12_rest_11 rfl (lv_at hl 0 rfl) ?_
    refine lv_if_ge (tgt := 21) hx hb dX12_rest_12 (by decide) (fun c9_ => absurd c9_ (by decide)) (fun _ => ?_)
    refine lv_aload_n hx hb dX12_rest_15 rfl (lv_at hl 1 rfl) ?_
    refine lv_iload_n hx hb dX12_rest_16 rfl (lv_at hl 0 rfl) ?_
    have hPc : va_P (dC, dI) vwCl ([(b 0, .inr (12, [.int 0, .int 0, .ref (b 1), .ref (b 2), .ref (b 3), .ref (b 4), .int 0, .ref (b 5), .ref (b 6), .int 0, .int 0, .int 0, .int (-1), .int 0, .ref (b 7), .ref (b 20), .int 0, .ref (b 21), .ref (b 22), .int 0, .int 0, .ref (b 23), .int 0, .int 0, .int 0, .int 0, .ref (b 24), .ref (b 25), .ref (b 26), .int 0, .ref (b 27), .int 0, .ref (b 28), .ref (b 29), .ref (b 30), .ref (b 31), .ref (b 32), .ref (b 33), .ref (b 34), .int 0, .int 0, .int 0, .int 0, .int 0, .int 0, .ref (b 35), .ref (b 36), .ref (b 37), .int 0, .int 0, .int 0, .ref (b 38), .int 0, .int 0, .ref (b 39), .ref (b 40), .ref (b 41), .ref (b 42), .int 0])), (b 1, .inl (cy 0, 8, .inl (fun _ => 0)))]) _ := hP.sub [0, 1] rfl
    have hDc := hD.sub (ws' := [(b 0, .inr (12, [.int 0, .int 0, .ref (b 1), .ref (b 2), .ref (b 3), .ref (b 4), .int 0, .ref (b 5), .ref (b 6), .int 0, .int 0, .int 0, .int (-1), .int 0, .ref (b 7), .ref (b 20), .int 0, .ref (b 21), .ref (b 22), .int 0, .int 0, .ref (b 23), .int 0, .int 0, .int 0, .int 0, .ref (b 24), .ref (b 25), .ref (b 26), .int 0, .ref (b 27), .int 0, .ref (b 28), .ref (b 29), .ref (b 30), .ref (b 31), .ref (b 32), .ref (b 33), .ref (b 34), .int 0, .int 0, .int 0, .int 0, .int 0, .int 0, .ref (b 35), .ref (b 36), .ref (b 37), .int 0, .int 0, .int 0, .ref (b 38), .int 0, .int 0, .ref (b 39), .ref (b 40), .ref (b 41), .ref (b 42), .int 0])), (b 1, .inl (cy 0, 8, .inl (fun _ => 0)))]) [0, 1] (by decide) rfl
    have hFc := va_free (wc := [(b 0, .inr (12, [.int 0, .int 0, .ref (b 1), .ref (b 2), .ref (b 3), .ref (b 4), .int 0, .ref (b 5), .ref (b 6), .int 0, .int 0, .int 0, .int (-1), .int 0, .ref (b 7), .ref (b 20), .int 0, .ref (b 21), .ref (b 22), .int 0, .int 0, .ref (b 23), .int 0, .int 0, .int 0, .int 0, .ref (b 24), .ref (b 25), .ref (b 26), .int 0, .ref (b 27), .int 0, .ref (b 28), .ref (b 29), .ref (b 30), .ref (b 31), .ref (b 32), .ref (b 33), .ref (b 34), .int 0, .int 0, .int 0, .int 0, .int 0, .int 0, .ref (b 35), .ref (b 36), .ref (b 37), .int 0, .int 0, .int 0, .ref (b 38), .int 0, .int 0, .ref (b 39), .ref (b 40), .ref (b 41), .ref (b 42), .int 0])), (b 1, .inl (cy 0, 8, .inl (fun _ => 0)))]) hD hS hA [0, 1] rfl
    refine va_calli (va_runV (As := [.int (-1)]) (rest := []) ⟨hx, hb, hml, hown, hts⟩ (c_X12_refuse_1 l dC dI cy b _ 0 (-1) 0 0 0 0 0 0 0) (cwV 1 hts g_X12_rest_X12_refuse_118 rfl rfl rfl (by decide +kernel) ⟨Nat.le_of_ble_eq_true rfl, Nat.le_of_ble_eq_true rfl⟩) (pv_ps hC hPc hDc (ci := 12) (q0 := 0) rfl rfl) rfl rfl hl.1 rfl (lv_room (Nat.le_of_ble_eq_true rfl)) dX12_rest_17 ⟨Nat.le_of_ble_eq_true rfl, Nat.le_of_ble_eq_true rfl⟩) hS (fun q _ h => hFc q h) hFc (fun r_ u t_ H1 locs ht hvm hw hB hz1 hk1 hS => ?_)
    obtain ⟨hP, hD⟩ := va_join (wr := []) (w1 := []) hP hD [0, 1] [] rfl rfl (by decide) (by decide) hk1 hFc va_P0 va_D0
    generalize H1 = H at hP hS ⊢
    have hP : va_P (dC, dI) vwCl ([]) H := hP
    have hD : va_D A ([]) := hD
    subst hw
    exact W.iret (v := (-1)) hx hb hr (fun t ht hW => ⟨⟨(-1), (), rfl, Or.inr (Or.inl (⟨c2_, c3_, rfl⟩)), trivial⟩, hS.F ht⟩) hS.2.2 dX12_rest_20
  · skip
    refine lv_istore_n (lv' := [(2, .int (-4)), (0, .ref (b 0)), (1, .int p0)]) hx hb dX12_rest_10 rfl hl (by decide) rfl (fun ls hl => ?_)
    refine lv_iload_n hx hb dX12_rest_11 rfl (lv_at hl 0 rfl) ?_
    refine lv_if_ge (tgt := 21) hx hb dX12_rest_12 (by decide) (fun c9_ => absurd c9_ (by decide)) (fun _ => ?_)
    refine lv_aload_n hx hb dX12_rest_15 rfl (lv_at hl 1 rfl) ?_
    refine lv_iload_n hx hb dX12_rest_16 rfl (lv_at hl 0 rfl) ?_
    have hPc : va_P (dC, dI) vwCl ([(b 0, .inr (12, [.int 0, .int 0, .ref (b 1), .ref (b 2), .ref (b 3), .ref (b 4), .int 0, .ref (b 5), .ref (b 6), .int 0, .int 0, .int 0, .int (-1), .int 0, .ref (b 7), .ref (b 20), .int 0, .ref (b 21), .ref (b 22), .int 0, .int 0, .ref (b 23), .int 0, .int 0, .int 0, .int 0, .ref (b 24), .ref (b 25), .ref (b 26), .int 0, .ref (b 27), .int 0, .ref (b 28), .ref (b 29), .ref (b 30), .ref (b 31), .ref (b 32), .ref (b 33), .ref (b 34), .int 0, .int 0, .int 0, .int 0, .int 0, .int 0, .ref (b 35), .ref (b 36), .ref (b 37), .int 0, .int 0, .int 0, .ref (b 38), .int 0, .int 0, .ref (b 39), .ref (b 40), .ref (b 41), .ref (b 42), .int 0])), (b 1, .inl (cy 0, 8, .inl (fun _ => 0)))]) _ := hP.sub [0, 1] rfl
    have hDc := hD.sub (ws' := [(b 0, .inr (12, [.int 0, .int 0, .ref (b 1), .ref (b 2), .ref (b 3), .ref (b 4), .int 0, .ref (b 5), .ref (b 6), .int 0, .int 0, .int 0, .int (-1), .int 0, .ref (b 7), .ref (b 20), .int 0, .ref (b 21), .ref (b 22), .int 0, .int 0, .ref (b 23), .int 0, .int 0, .int 0, .int 0, .ref (b 24), .ref (b 25), .ref (b 26), .int 0, .ref (b 27), .int 0, .ref (b 28), .ref (b 29), .ref (b 30), .ref (b 31), .ref (b 32), .ref (b 33), .ref (b 34), .int 0, .int 0, .int 0, .int 0, .int 0, .int 0, .ref (b 35), .ref (b 36), .ref (b 37), .int 0, .int 0, .int 0, .ref (b 38), .int 0, .int 0, .ref (b 39), .ref (b 40), .ref (b 41), .ref (b 42), .int 0])), (b 1, .inl (cy 0, 8, .inl (fun _ => 0)))]) [0, 1] (by decide) rfl
    have hFc := va_free (wc := [(b 0, .inr (12, [.int 0, .int 0, .ref (b 1), .ref (b 2), .ref (b 3), .ref (b 4), .int 0, .ref (b 5), .ref (b 6), .int 0, .int 0, .int 0, .int (-1), .int 0, .ref (b 7), .ref (b 20), .int 0, .ref (b 21), .ref (b 22), .int 0, .int 0, .ref (b 23), .int 0, .int 0, .int 0, .int 0, .ref (b 24), .ref (b 25), .ref (b 26), .int 0, .ref (b 27), .int 0, .ref (b 28), .ref (b 29), .ref (b 30), .ref (b 31), .ref (b 32), .ref (b 33), .ref (b 34), .int 0, .int 0, .int 0, .int 0, .int 0, .int 0, .ref (b 35), .ref (b 36), .ref (b 37), .int 0, .int 0, .int 0, .ref (b 38), .int 0, .int 0, .ref (b 39), .ref (b 40), .ref (b 41), .ref (b 42), .int 0])), (b 1, .inl (cy 0, 8, .inl (fun _ => 0)))]) hD hS hA [0, 1] rfl
    refine va_calli (va_runV (As := [.int (-4)]) (rest := []) ⟨hx, hb, hml, hown, hts⟩ (c_X12_refuse_4 l dC dI cy b _ 0 (-1) 0 0 0 0 0 0 0) (cwV 1 hts g_X12_rest_X12_refuse_118 rfl rfl rfl (by decide +kernel) ⟨Nat.le_of_ble_eq_true rfl, Nat.le_of_ble_eq_true rfl⟩) (pv_ps hC hPc hDc (ci := 12) (q0 := 0) rfl rfl) rfl rfl hl.1 rfl (lv_room (Nat.le_of_ble_eq_true rfl)) dX12_rest_17 ⟨Nat.le_of_ble_eq_true rfl, Nat.le_of_ble_eq_true rfl⟩) hS (fun q _ h => hFc q h) hFc (fun r_ u t_ H1 locs ht hvm hw hB hz1 hk1 hS => ?_)
    obtain ⟨hP, hD⟩ := va_join (wr := []) (w1 := []) hP hD [0, 1] [] rfl rfl (by decide) (by decide) hk1 hFc va_P0 va_D0
    generalize H1 = H at hP hS ⊢
    have hP : va_P (dC, dI) vwCl ([]) H := hP
    have hD : va_D A ([]) := hD
    subst hw
    exact W.iret (v := (-4)) hx hb hr (fun t ht hW => ⟨⟨(-4), (), rfl, Or.inr (Or.inr (⟨c4_, c5_, rfl⟩)), trivial⟩, hS.F ht⟩) hS.2.2 dX12_rest_20

theorem dX12_lookUp_0 : decode cX12_lookUp 0 = .ok (.aload_n 0, 1) := by decide +kernel
theorem dX12_lookUp_1 : decode cX12_lookUp 1 = .ok (.iconst 0, 1) := by decide +kernel
theorem dX12_lookUp_2 : decode cX12_lookUp 2 = .ok (.putfield 105, 3) := by decide +kernel
theorem dX12_lookUp_5 : decode cX12_lookUp 5 = .ok (.aload_n 0, 1) := by decide +kernel
theorem dX12_lookUp_6 : decode cX12_lookUp 6 = .ok (.iload_n 1, 1) := by decide +kernel
theorem dX12_lookUp_7 : decode cX12_lookUp 7 = .ok (.iconst 1, 1) := by decide +kernel
theorem dX12_lookUp_8 : decode cX12_lookUp 8 = .ok (.invokevirtual 143, 3) := by decide +kernel
theorem dX12_lookUp_11 : decode cX12_lookUp 11 = .ok (.ifCond .eq 19, 3) := by decide +kernel
theorem dX12_lookUp_14 : decode cX12_lookUp 14 = .ok (.iload_n 2, 1) := by decide +kernel
theorem dX12_lookUp_15 : decode cX12_lookUp 15 = .ok (.invokestatic 147, 3) := by decide +kernel
theorem dX12_lookUp_18 : decode cX12_lookUp 18 = .ok (.ifCond .eq 12, 3) := by decide +kernel
theorem dX12_lookUp_21 : decode cX12_lookUp 21 = .ok (.aload_n 0, 1) := by decide +kernel
theorem dX12_lookUp_22 : decode cX12_lookUp 22 = .ok (.iload_n 1, 1) := by decide +kernel
theorem dX12_lookUp_23 : decode cX12_lookUp 23 = .ok (.iload_n 2, 1) := by decide +kernel
theorem dX12_lookUp_24 : decode cX12_lookUp 24 = .ok (.invokevirtual 150, 3) := by decide +kernel
theorem dX12_lookUp_27 : decode cX12_lookUp 27 = .ok (.goto 4, 3) := by decide +kernel
theorem dX12_lookUp_30 : decode cX12_lookUp 30 = .ok (.iconst (-1), 1) := by decide +kernel
theorem dX12_lookUp_31 : decode cX12_lookUp 31 = .ok (.ireturn, 1) := by decide +kernel
def v_X12_lookUp : List Cond := .code yX12_lookUp cX12_lookUp 3 (some .int) :: ([.fieldLink RX12 105 "RestBoardModel" "thrown" "I", .methodLink RX12 143 yX12_isOf, .instanceMethod yX12_isOf, .selects RX12 yX12_isOf yX12_isOf, .initialized RX12, .code yX12_isOf cX12_isOf 3 (some .boolean), .methodLink RX12 132 yX12_isNode, .instanceMethod yX12_isNode, .selects RX12 yX12_isNode yX12_isNode, .code yX12_isNode cX12_isNode 2 (some .boolean), .fieldLink RX12 13 "RestBoardModel" "row" "[I", .methodLink RX12 128 yX12_in, .static yX12_in, .code yX12_in cX12_in 6 (some .boolean), .methodLink RX12 136 yX12_kind, .instanceMethod yX12_kind, .selects RX12 yX12_kind yX12_kind, .code yX12_kind cX12_kind 2 (some .int), .methodLink RX12 125 yX12_at, .static yX12_at, .code yX12_at cX12_at 1 (some .int), .methodLink RX12 147 yX12_isName, .static yX12_isName, .code yX12_isName cX12_isName 1 (some .boolean), .methodLink RX12 150 yX12_seek, .instanceMethod yX12_seek, .selects RX12 yX12_seek yX12_seek, .code yX12_seek cX12_seek 5 (some .int), .methodLink RX12 139 yX12_own, .instanceMethod yX12_own, .selects RX12 yX12_own yX12_own, .code yX12_own cX12_own 5 (some .int)] ++ wsX120)
theorem m_X12_lookUp_0 : (.fieldLink RX12 105 "RestBoardModel" "thrown" "I" : Cond) ∈ v_X12_lookUp := List.mem_of_getElem? (i := 1) (by decide +kernel)
theorem i_X12_lookUp_X12 : ∀ w ∈ u_ws RX12 TX12 59, w ∈ v_X12_lookUp := fun w h => List.mem_cons_of_mem _ (List.mem_append_right _ h)
set_option maxRecDepth 100000 in
theorem gg_X12_lookUp_X12_isOf_143 : GoodIn v_X12_lookUp v_X12_isOf := goodIn_r _ [6, 7, 8, 9, 5, 10, 11, 12, 13, 14, 15, 16, 17, 18, 19, 20, 21, 33, 34, 35, 36, 37, 38, 39, 40, 41, 42, 43, 44, 45, 46, 47, 48, 49, 50, 51, 52, 53, 54, 55, 56, 57, 58, 59, 60, 61, 62, 63, 64, 65, 66, 67, 68, 69, 70, 71, 72, 73, 74, 75, 76, 77, 78, 79, 80, 81, 82, 83, 84, 85, 86, 87, 88, 89, 90, 91] (by decide +kernel) (by decide +kernel)
set_option maxRecDepth 100000 in
theorem g_X12_lookUp_X12_isOf_143 : GoodIn v_X12_lookUp (wsV RX12 143 RX12 yX12_isOf v_X12_isOf) := goodIn_app (goodIn_r _ [2, 3, 4, 5] (by decide +kernel) (by decide +kernel)) gg_X12_lookUp_X12_isOf_143
set_option maxRecDepth 100000 in
theorem gg_X12_lookUp_X12_isName_147 : GoodIn v_X12_lookUp v_X12_isName := goodIn_r _ [24] (by decide +kernel) (by decide +kernel)
set_option maxRecDepth 100000 in
theorem g_X12_lookUp_X12_isName_147 : GoodIn v_X12_lookUp (va_wsS RX12 147 yX12_isName v_X12_isName) := goodIn_app (goodIn_r _ [22, 23, 5] (by decide +kernel) (by decide +kernel)) gg_X12_lookUp_X12_isName_147
set_option maxRecDepth 100000 in
theorem gg_X12_lookUp_X12_seek_150 : GoodIn v_X12_lookUp v_X12_seek := goodIn_r _ [28, 29, 30, 31, 5, 32, 11, 33, 34, 35, 36, 37, 38, 39, 40, 41, 42, 43, 44, 45, 46, 47, 48, 49, 50, 51, 52, 53, 54, 55, 56, 57, 58, 59, 60, 61, 62, 63, 64, 65, 66, 67, 68, 69, 70, 71, 72, 73, 74, 75, 76, 77, 78, 79, 80, 81, 82, 83, 84, 85, 86, 87, 88, 89, 90, 91] (by decide +kernel) (by decide +kernel)
set_option maxRecDepth 100000 in
theorem g_X12_lookUp_X12_seek_150 : GoodIn v_X12_lookUp (wsV RX12 150 RX12 yX12_seek v_X12_seek) := goodIn_app (goodIn_r _ [25, 26, 27, 5] (by decide +kernel) (by decide +kernel)) gg_X12_lookUp_X12_seek_150
set_option maxHeartbeats 4000000 in
set_option maxRecDepth 100000 in
theorem c_X12_lookUp (l : Launch) (dC : Nat → ClassId) (dI : Nat → Nat → Nat) (cy : Nat → ClassId) (b : Nat → Nat) (sz : Nat) (p0 p1 : Int32) : Met l yX12_lookUp v_X12_lookUp ({ frames := 3, cells := 0, slots := 0, locals := 68 }) (va_Pc [.ref (b 0), .int p0, .int p1] (ps dC dI cy (mw b cy) sz)) (va_Qi (fun (r : Int32) (_ : Unit) => ((p0 < 0) ∧ r = (-1)) ∨ ((¬ p0 < 0) ∧ ((0 : Int32) < p0) ∧ r = (-1)) ∨ ((p0 = 0) ∧ (p1 < 97) ∧ r = (-1)) ∨ ((p0 = 0) ∧ (¬ p1 < 97) ∧ ((122 : Int32) < p1) ∧ r = (-1)) ∨ ((p0 = 0) ∧ (¬ p1 < 97) ∧ (¬ (122 : Int32) < p1) ∧ r = (-1))) (fun _ _ => True) (va_A (mw b cy) sz)) 0 0 (va_A (mw b cy) sz) := by
  refine Met.ofW (cc := cX12_lookUp) (maxL := 3) (ret := (some .int)) (by decide) rfl ?_
  intro p e s m args below meth c s₁ B hml hv
  obtain ⟨rfl, hsz, hP, hC, hD0⟩ := hv
  have hK := hC.1
  have hx := B.exec
  have hb := B.bytes
  have hr := B.returns
  have hts := atoms_spec (ws := v_X12_lookUp) B.pre
  have hown : s.vm.findClass RX12 = some m.cls := findClass_of_methodNamed B.named
  have hlocks := B.notSynchronized
  subst hsz
  have hD := hD0.self (sz := s.heap.size)
  generalize hAe : va_A (mw b cy) s.heap.size = A at hD ⊢
  have hA : ∀ q : Nat, s.heap.size ≤ q → A q := fun q h => by rw [← hAe]; exact Or.inr h
  have hS : va_S A s.heap s.heap [] := va_S.rf
  have hl := lv_entry ([.ref (b 0), .int p0, .int p1]) (n := 3) (Nat.le_of_ble_eq_true rfl)
  rw [lg_entry_eq]
  generalize (lg_sl ([.ref (b 0), .int p0, .int p1]) ++ List.replicate (3 - (lg_sl ([.ref (b 0), .int p0, .int p1])).length) Slot.unset).toArray = ls at hl ⊢
  have hl : lv_has ls 3 [(0, .ref (b 0)), (1, .int p0), (2, .int p1)] := hl
  refine lv_aload_n hx hb dX12_lookUp_0 rfl (lv_at hl 0 rfl) ?_
  refine lv_iconst (v := 0) hx hb dX12_lookUp_1 (by decide) ?_
  refine va_put (D := (dC, dI)) (ci := 12) (v := .int 0) (ty := .int) (C := RX12) (T := TX12) (N := 59) hx hb hts i_X12_lookUp_X12 tyX12 tyX12_ok nmX12 hown hK hP hD hS 0 rfl rfl 0 (by decide) (hts _ m_X12_lookUp_0) (fun _ h9 => h9) rfl (by decide +kernel) rfl rfl (Nat.le_of_ble_eq_true rfl) dX12_lookUp_2 (fun H locs hP hD hS => ?_)
  have hP : va_P (dC, dI) vwCl (mw b cy) H := hP
  have hD : va_D A (mw b cy) := hD
  refine lv_aload_n hx hb dX12_lookUp_5 rfl (lv_at hl 0 rfl) ?_
  refine lv_iload_n hx hb dX12_lookUp_6 rfl (lv_at hl 1 rfl) ?_
  refine lv_iconst (v := 1) hx hb dX12_lookUp_7 (by decide) ?_
  refine tk_pi (va_runV (As := [.int p0, .int 1]) (rest := []) ⟨hx, hb, hml, hown, hts⟩ (c_X12_isOf l dC dI cy b p0 1) (cwV 2 hts g_X12_lookUp_X12_isOf_143 rfl rfl rfl (by decide +kernel) ⟨Nat.le_of_ble_eq_true rfl, Nat.le_of_ble_eq_true rfl⟩) (pv_pp hC hP (ci := 12) (q0 := 0) rfl rfl) rfl rfl hl.1 rfl (lv_room (Nat.le_of_ble_eq_true rfl)) dX12_lookUp_8 ⟨Nat.le_of_ble_eq_true rfl, Nat.le_of_ble_eq_true rfl⟩) hP hS (fun r_ H locs hw hP hS => ?_)
  rcases hw with ⟨c1_, rfl⟩ | ⟨c2_, c3_, rfl⟩ | ⟨c4_, c5_, rfl⟩ | ⟨c6_, -, rfl⟩
  · skip
    refine lv_if_eq (tgt := 30) hx hb dX12_lookUp_11 (by decide) (fun _ => ?_) (fun c9_ => absurd (by decide) c9_)
    refine lv_iconst (v := (-1)) hx hb dX12_lookUp_30 (by decide) ?_
    exact W.iret (v := (-1)) hx hb hr (fun t ht hW => ⟨⟨(-1), (), rfl, Or.inl (⟨c1_, rfl⟩), trivial⟩, hS.F ht⟩) hS.2.2 dX12_lookUp_31
  · skip
    refine lv_if_eq (tgt := 30) hx hb dX12_lookUp_11 (by decide) (fun _ => ?_) (fun c9_ => absurd (by decide) c9_)
    refine lv_iconst (v := (-1)) hx hb dX12_lookUp_30 (by decide) ?_
    exact W.iret (v := (-1)) hx hb hr (fun t ht hW => ⟨⟨(-1), (), rfl, Or.inr (Or.inl (⟨c2_, c3_, rfl⟩)), trivial⟩, hS.F ht⟩) hS.2.2 dX12_lookUp_31
  · skip
    exact absurd c5_ (by decide)
  · skip
    subst c6_
    refine lv_if_eq (tgt := 30) hx hb dX12_lookUp_11 (by decide) (fun c9_ => absurd c9_ (by decide)) (fun _ => ?_)
    refine lv_iload_n hx hb dX12_lookUp_14 rfl (lv_at hl 2 rfl) ?_
    refine tk_pi (va_runS (As := [.int p1]) (rest := []) ⟨hx, hb, hml, hown, hts⟩ (c_X12_isName l dC dI cy  p1) (va_cwS 1 hts g_X12_lookUp_X12_isName_147 rfl rfl rfl (by decide +kernel) ⟨Nat.le_of_ble_eq_true rfl, Nat.le_of_ble_eq_true rfl⟩) (pS_pp hC va_P0) rfl rfl hl.1 rfl (lv_room (Nat.le_of_ble_eq_true rfl)) dX12_lookUp_15 ⟨Nat.le_of_ble_eq_true rfl, Nat.le_of_ble_eq_true rfl⟩) hP hS (fun r_ H locs hw hP hS => ?_)
    rcases hw with ⟨c8_, rfl⟩ | ⟨c9_, c10_, rfl⟩ | ⟨c11_, c12_, rfl⟩
    · skip
      refine lv_if_eq (tgt := 30) hx hb dX12_lookUp_18 (by decide) (fun _ => ?_) (fun c9_ => absurd (by decide) c9_)
      refine lv_iconst (v := (-1)) hx hb dX12_lookUp_30 (by decide) ?_
      exact W.iret (v := (-1)) hx hb hr (fun t ht hW => ⟨⟨(-1), (), rfl, Or.inr (Or.inr (Or.inl (⟨rfl, c8_, rfl⟩))), trivial⟩, hS.F ht⟩) hS.2.2 dX12_lookUp_31
    · skip
      refine lv_if_eq (tgt := 30) hx hb dX12_lookUp_18 (by decide) (fun _ => ?_) (fun c9_ => absurd (by decide) c9_)
      refine lv_iconst (v := (-1)) hx hb dX12_lookUp_30 (by decide) ?_
      exact W.iret (v := (-1)) hx hb hr (fun t ht hW => ⟨⟨(-1), (), rfl, Or.inr (Or.inr (Or.inr (Or.inl (⟨rfl, c9_, c10_, rfl⟩)))), trivial⟩, hS.F ht⟩) hS.2.2 dX12_lookUp_31
    · skip
      refine lv_if_eq (tgt := 30) hx hb dX12_lookUp_18 (by decide) (fun c9_ => absurd c9_ (by decide)) (fun _ => ?_)
      refine lv_aload_n hx hb dX12_lookUp_21 rfl (lv_at hl 0 rfl) ?_
      refine lv_iload_n hx hb dX12_lookUp_22 rfl (lv_at hl 1 rfl) ?_
      refine lv_iload_n hx hb dX12_lookUp_23 rfl (lv_at hl 2 rfl) ?_
      refine tk_pi (va_runV (As := [.int 0, .int p1]) (rest := []) ⟨hx, hb, hml, hown, hts⟩ (c_X12_seek l dC dI cy b p1) (cwV 2 hts g_X12_lookUp_X12_seek_150 rfl rfl rfl (by decide +kernel) ⟨Nat.le_of_ble_eq_true rfl, Nat.le_of_ble_eq_true rfl⟩) (pv_pp hC hP (ci := 12) (q0 := 0) rfl rfl) rfl rfl hl.1 rfl (lv_room (Nat.le_of_ble_eq_true rfl)) dX12_lookUp_24 ⟨Nat.le_of_ble_eq_true rfl, Nat.le_of_ble_eq_true rfl⟩) hP hS (fun r_ H locs hw hP hS => ?_)
      subst hw
      refine lv_goto (tgt := 31) hx hb dX12_lookUp_27 (by decide) ?_
      exact W.iret (v := (-1)) hx hb hr (fun t ht hW => ⟨⟨(-1), (), rfl, Or.inr (Or.inr (Or.inr (Or.inr (⟨rfl, c11_, c12_, rfl⟩)))), trivial⟩, hS.F ht⟩) hS.2.2 dX12_lookUp_31

theorem dX12_code_0 : decode cX12_code 0 = .ok (.aload_n 0, 1) := by decide +kernel
theorem dX12_code_1 : decode cX12_code 1 = .ok (.iconst 0, 1) := by decide +kernel
theorem dX12_code_2 : decode cX12_code 2 = .ok (.putfield 105, 3) := by decide +kernel
theorem dX12_code_5 : decode cX12_code 5 = .ok (.aload_n 0, 1) := by decide +kernel
theorem dX12_code_6 : decode cX12_code 6 = .ok (.iload_n 1, 1) := by decide +kernel
theorem dX12_code_7 : decode cX12_code 7 = .ok (.iconst 3, 1) := by decide +kernel
theorem dX12_code_8 : decode cX12_code 8 = .ok (.invokevirtual 143, 3) := by decide +kernel
theorem dX12_code_11 : decode cX12_code 11 = .ok (.ifCond .eq 44, 3) := by decide +kernel
theorem dX12_code_55 : decode cX12_code 55 = .ok (.iconst (-1), 1) := by decide +kernel
theorem dX12_code_56 : decode cX12_code 56 = .ok (.ireturn, 1) := by decide +kernel
def v_X12_code : List Cond := .code yX12_code cX12_code 3 (some .int) :: ([.fieldLink RX12 105 "RestBoardModel" "thrown" "I", .methodLink RX12 143 yX12_isOf, .instanceMethod yX12_isOf, .selects RX12 yX12_isOf yX12_isOf, .initialized RX12, .code yX12_isOf cX12_isOf 3 (some .boolean), .methodLink RX12 132 yX12_isNode, .instanceMethod yX12_isNode, .selects RX12 yX12_isNode yX12_isNode, .code yX12_isNode cX12_isNode 2 (some .boolean), .fieldLink RX12 13 "RestBoardModel" "row" "[I", .methodLink RX12 128 yX12_in, .static yX12_in, .code yX12_in cX12_in 6 (some .boolean), .methodLink RX12 136 yX12_kind, .instanceMethod yX12_kind, .selects RX12 yX12_kind yX12_kind, .code yX12_kind cX12_kind 2 (some .int), .methodLink RX12 125 yX12_at, .static yX12_at, .code yX12_at cX12_at 1 (some .int)] ++ wsX120)
theorem m_X12_code_0 : (.fieldLink RX12 105 "RestBoardModel" "thrown" "I" : Cond) ∈ v_X12_code := List.mem_of_getElem? (i := 1) (by decide +kernel)
theorem i_X12_code_X12 : ∀ w ∈ u_ws RX12 TX12 59, w ∈ v_X12_code := fun w h => List.mem_cons_of_mem _ (List.mem_append_right _ h)
set_option maxRecDepth 100000 in
theorem gg_X12_code_X12_isOf_143 : GoodIn v_X12_code v_X12_isOf := goodIn_r _ [6, 7, 8, 9, 5, 10, 11, 12, 13, 14, 15, 16, 17, 18, 19, 20, 21, 22, 23, 24, 25, 26, 27, 28, 29, 30, 31, 32, 33, 34, 35, 36, 37, 38, 39, 40, 41, 42, 43, 44, 45, 46, 47, 48, 49, 50, 51, 52, 53, 54, 55, 56, 57, 58, 59, 60, 61, 62, 63, 64, 65, 66, 67, 68, 69, 70, 71, 72, 73, 74, 75, 76, 77, 78, 79, 80] (by decide +kernel) (by decide +kernel)
set_option maxRecDepth 100000 in
theorem g_X12_code_X12_isOf_143 : GoodIn v_X12_code (wsV RX12 143 RX12 yX12_isOf v_X12_isOf) := goodIn_app (goodIn_r _ [2, 3, 4, 5] (by decide +kernel) (by decide +kernel)) gg_X12_code_X12_isOf_143
set_option maxHeartbeats 4000000 in
set_option maxRecDepth 100000 in
theorem c_X12_code (l : Launch) (dC : Nat → ClassId) (dI : Nat → Nat → Nat) (cy : Nat → ClassId) (b : Nat → Nat) (sz : Nat) (p0 p1 : Int32) : Met l yX12_code v_X12_code ({ frames := 3, cells := 0, slots := 0, locals := 68 }) (va_Pc [.ref (b 0), .int p0, .int p1] (ps dC dI cy (mw b cy) sz)) (va_Qi (fun (r : Int32) (_ : Unit) => ((p0 < 0) ∧ r = (-1)) ∨ ((¬ p0 < 0) ∧ ((0 : Int32) < p0) ∧ r = (-1)) ∨ ((p0 = 0) ∧ r = (-1))) (fun _ _ => True) (va_A (mw b cy) sz)) 0 0 (va_A (mw b cy) sz) := by
  refine Met.ofW (cc := cX12_code) (maxL := 3) (ret := (some .int)) (by decide) rfl ?_
  intro p e s m args below meth c s₁ B hml hv
  obtain ⟨rfl, hsz, hP, hC, hD0⟩ := hv
  have hK := hC.1
  have hx := B.exec
  have hb := B.bytes
  have hr := B.returns
  have hts := atoms_spec (ws := v_X12_code) B.pre
  have hown : s.vm.findClass RX12 = some m.cls := findClass_of_methodNamed B.named
  have hlocks := B.notSynchronized
  subst hsz
  have hD := hD0.self (sz := s.heap.size)
  generalize hAe : va_A (mw b cy) s.heap.size = A at hD ⊢
  have hA : ∀ q : Nat, s.heap.size ≤ q → A q := fun q h => by rw [← hAe]; exact Or.inr h
  have hS : va_S A s.heap s.heap [] := va_S.rf
  have hl := lv_entry ([.ref (b 0), .int p0, .int p1]) (n := 3) (Nat.le_of_ble_eq_true rfl)
  rw [lg_entry_eq]
  generalize (lg_sl ([.ref (b 0), .int p0, .int p1]) ++ List.replicate (3 - (lg_sl ([.ref (b 0), .int p0, .int p1])).length) Slot.unset).toArray = ls at hl ⊢
  have hl : lv_has ls 3 [(0, .ref (b 0)), (1, .int p0), (2, .int p1)] := hl
  refine lv_aload_n hx hb dX12_code_0 rfl (lv_at hl 0 rfl) ?_
  refine lv_iconst (v := 0) hx hb dX12_code_1 (by decide) ?_
  refine va_put (D := (dC, dI)) (ci := 12) (v := .int 0) (ty := .int) (C := RX12) (T := TX12) (N := 59) hx hb hts i_X12_code_X12 tyX12 tyX12_ok nmX12 hown hK hP hD hS 0 rfl rfl 0 (by decide) (hts _ m_X12_code_0) (fun _ h9 => h9) rfl (by decide +kernel) rfl rfl (Nat.le_of_ble_eq_true rfl) dX12_code_2 (fun H locs hP hD hS => ?_)
  have hP : va_P (dC, dI) vwCl (mw b cy) H := hP
  have hD : va_D A (mw b cy) := hD
  refine lv_aload_n hx hb dX12_code_5 rfl (lv_at hl 0 rfl) ?_
  refine lv_iload_n hx hb dX12_code_6 rfl (lv_at hl 1 rfl) ?_
  refine lv_iconst (v := 3) hx hb dX12_code_7 (by decide) ?_
  refine tk_pi (va_runV (As := [.int p0, .int 3]) (rest := []) ⟨hx, hb, hml, hown, hts⟩ (c_X12_isOf l dC dI cy b p0 3) (cwV 2 hts g_X12_code_X12_isOf_143 rfl rfl rfl (by decide +kernel) ⟨Nat.le_of_ble_eq_true rfl, Nat.le_of_ble_eq_true rfl⟩) (pv_pp hC hP (ci := 12) (q0 := 0) rfl rfl) rfl rfl hl.1 rfl (lv_room (Nat.le_of_ble_eq_true rfl)) dX12_code_8 ⟨Nat.le_of_ble_eq_true rfl, Nat.le_of_ble_eq_true rfl⟩) hP hS (fun r_ H locs hw hP hS => ?_)
  rcases hw with ⟨c1_, rfl⟩ | ⟨c2_, c3_, rfl⟩ | ⟨c4_, -, rfl⟩ | ⟨c6_, c7_, rfl⟩
  · skip
    refine lv_if_eq (tgt := 55) hx hb dX12_code_11 (by decide) (fun _ => ?_) (fun c9_ => absurd (by decide) c9_)
    refine lv_iconst (v := (-1)) hx hb dX12_code_55 (by decide) ?_
    exact W.iret (v := (-1)) hx hb hr (fun t ht hW => ⟨⟨(-1), (), rfl, Or.inl (⟨c1_, rfl⟩), trivial⟩, hS.F ht⟩) hS.2.2 dX12_code_56
  · skip
    refine lv_if_eq (tgt := 55) hx hb dX12_code_11 (by decide) (fun _ => ?_) (fun c9_ => absurd (by decide) c9_)
    refine lv_iconst (v := (-1)) hx hb dX12_code_55 (by decide) ?_
    exact W.iret (v := (-1)) hx hb hr (fun t ht hW => ⟨⟨(-1), (), rfl, Or.inr (Or.inl (⟨c2_, c3_, rfl⟩)), trivial⟩, hS.F ht⟩) hS.2.2 dX12_code_56
  · skip
    subst c4_
    refine lv_if_eq (tgt := 55) hx hb dX12_code_11 (by decide) (fun _ => ?_) (fun c9_ => absurd (by decide) c9_)
    refine lv_iconst (v := (-1)) hx hb dX12_code_55 (by decide) ?_
    exact W.iret (v := (-1)) hx hb hr (fun t ht hW => ⟨⟨(-1), (), rfl, Or.inr (Or.inr (⟨rfl, rfl⟩)), trivial⟩, hS.F ht⟩) hS.2.2 dX12_code_56
  · skip
    exact absurd c7_ (by decide)

theorem dX12_wants_0 : decode cX12_wants 0 = .ok (.aload_n 0, 1) := by decide +kernel
theorem dX12_wants_1 : decode cX12_wants 1 = .ok (.iconst 0, 1) := by decide +kernel
theorem dX12_wants_2 : decode cX12_wants 2 = .ok (.putfield 105, 3) := by decide +kernel
theorem dX12_wants_5 : decode cX12_wants 5 = .ok (.aload_n 0, 1) := by decide +kernel
theorem dX12_wants_6 : decode cX12_wants 6 = .ok (.iload_n 1, 1) := by decide +kernel
theorem dX12_wants_7 : decode cX12_wants 7 = .ok (.iconst 1, 1) := by decide +kernel
theorem dX12_wants_8 : decode cX12_wants 8 = .ok (.invokevirtual 143, 3) := by decide +kernel
theorem dX12_wants_11 : decode cX12_wants 11 = .ok (.ifCond .eq 11, 3) := by decide +kernel
theorem dX12_wants_14 : decode cX12_wants 14 = .ok (.aload_n 0, 1) := by decide +kernel
theorem dX12_wants_15 : decode cX12_wants 15 = .ok (.iload_n 1, 1) := by decide +kernel
theorem dX12_wants_16 : decode cX12_wants 16 = .ok (.invokevirtual 529, 3) := by decide +kernel
theorem dX12_wants_19 : decode cX12_wants 19 = .ok (.goto 6, 3) := by decide +kernel
theorem dX12_wants_22 : decode cX12_wants 22 = .ok (.ldc2_w 532, 3) := by decide +kernel
theorem dX12_wants_25 : decode cX12_wants 25 = .ok (.lreturn, 1) := by decide +kernel
def v_X12_wants : List Cond := .code yX12_wants cX12_wants 2 (some .long) :: ([.fieldLink RX12 105 "RestBoardModel" "thrown" "I", .constantLong RX12 532 (-1), .methodLink RX12 143 yX12_isOf, .instanceMethod yX12_isOf, .selects RX12 yX12_isOf yX12_isOf, .initialized RX12, .code yX12_isOf cX12_isOf 3 (some .boolean), .methodLink RX12 132 yX12_isNode, .instanceMethod yX12_isNode, .selects RX12 yX12_isNode yX12_isNode, .code yX12_isNode cX12_isNode 2 (some .boolean), .fieldLink RX12 13 "RestBoardModel" "row" "[I", .methodLink RX12 128 yX12_in, .static yX12_in, .code yX12_in cX12_in 6 (some .boolean), .methodLink RX12 136 yX12_kind, .instanceMethod yX12_kind, .selects RX12 yX12_kind yX12_kind, .code yX12_kind cX12_kind 2 (some .int), .methodLink RX12 125 yX12_at, .static yX12_at, .code yX12_at cX12_at 1 (some .int), .methodLink RX12 529 yX12_wantsOf, .instanceMethod yX12_wantsOf, .selects RX12 yX12_wantsOf yX12_wantsOf, .code yX12_wantsOf cX12_wantsOf 2 (some .long), .methodLink RX12 525 yX12_bitsOf, .instanceMethod yX12_bitsOf, .selects RX12 yX12_bitsOf yX12_bitsOf, .code yX12_bitsOf cX12_bitsOf 5 (some .long)] ++ wsX120)
theorem m_X12_wants_0 : (.fieldLink RX12 105 "RestBoardModel" "thrown" "I" : Cond) ∈ v_X12_wants := List.mem_of_getElem? (i := 1) (by decide +kernel)
theorem m_X12_wants_1 : (.constantLong RX12 532 (-1) : Cond) ∈ v_X12_wants := List.mem_of_getElem? (i := 2) (by decide +kernel)
theorem i_X12_wants_X12 : ∀ w ∈ u_ws RX12 TX12 59, w ∈ v_X12_wants := fun w h => List.mem_cons_of_mem _ (List.mem_append_right _ h)
set_option maxRecDepth 100000 in
theorem gg_X12_wants_X12_isOf_143 : GoodIn v_X12_wants v_X12_isOf := goodIn_r _ [7, 8, 9, 10, 6, 11, 12, 13, 14, 15, 16, 17, 18, 19, 20, 21, 22, 31, 32, 33, 34, 35, 36, 37, 38, 39, 40, 41, 42, 43, 44, 45, 46, 47, 48, 49, 50, 51, 52, 53, 54, 55, 56, 57, 58, 59, 60, 61, 62, 63, 64, 65, 66, 67, 68, 69, 70, 71, 72, 73, 74, 75, 76, 77, 78, 79, 80, 81, 82, 83, 84, 85, 86, 87, 88, 89] (by decide +kernel) (by decide +kernel)
set_option maxRecDepth 100000 in
theorem g_X12_wants_X12_isOf_143 : GoodIn v_X12_wants (wsV RX12 143 RX12 yX12_isOf v_X12_isOf) := goodIn_app (goodIn_r _ [3, 4, 5, 6] (by decide +kernel) (by decide +kernel)) gg_X12_wants_X12_isOf_143
set_option maxRecDepth 100000 in
theorem gg_X12_wants_X12_wantsOf_529 : GoodIn v_X12_wants v_X12_wantsOf := goodIn_r _ [26, 20, 21, 6, 22, 27, 28, 29, 30, 12, 31, 32, 33, 34, 35, 36, 37, 38, 39, 40, 41, 42, 43, 44, 45, 46, 47, 48, 49, 50, 51, 52, 53, 54, 55, 56, 57, 58, 59, 60, 61, 62, 63, 64, 65, 66, 67, 68, 69, 70, 71, 72, 73, 74, 75, 76, 77, 78, 79, 80, 81, 82, 83, 84, 85, 86, 87, 88, 89] (by decide +kernel) (by decide +kernel)
set_option maxRecDepth 100000 in
theorem g_X12_wants_X12_wantsOf_529 : GoodIn v_X12_wants (wsV RX12 529 RX12 yX12_wantsOf v_X12_wantsOf) := goodIn_app (goodIn_r _ [23, 24, 25, 6] (by decide +kernel) (by decide +kernel)) gg_X12_wants_X12_wantsOf_529
set_option maxHeartbeats 4000000 in
set_option maxRecDepth 100000 in
theorem c_X12_wants (l : Launch) (dC : Nat → ClassId) (dI : Nat → Nat → Nat) (cy : Nat → ClassId) (b : Nat → Nat) (sz : Nat) (p0 : Int32) : Met l yX12_wants v_X12_wants ({ frames := 3, cells := 0, slots := 0, locals := 68 }) (va_Pc [.ref (b 0), .int p0] (ps dC dI cy (mw b cy) sz)) (va_Ql (fun (r : Int64) (_ : Unit) => ((p0 < 0) ∧ r = (Int32.toInt64 (-1))) ∨ ((¬ p0 < 0) ∧ ((0 : Int32) < p0) ∧ r = (Int32.toInt64 (-1))) ∨ ((p0 = 0) ∧ r = (Int32.toInt64 0))) (fun _ _ => True) (va_A (mw b cy) sz)) 0 0 (va_A (mw b cy) sz) := by
  refine Met.ofW (cc := cX12_wants) (maxL := 2) (ret := (some .long)) (by decide) rfl ?_
  intro p e s m args below meth c s₁ B hml hv
  obtain ⟨rfl, hsz, hP, hC, hD0⟩ := hv
  have hK := hC.1
  have hx := B.exec
  have hb := B.bytes
  have hr := B.returns
  have hts := atoms_spec (ws := v_X12_wants) B.pre
  have hown : s.vm.findClass RX12 = some m.cls := findClass_of_methodNamed B.named
  have hlocks := B.notSynchronized
  subst hsz
  have hD := hD0.self (sz := s.heap.size)
  generalize hAe : va_A (mw b cy) s.heap.size = A at hD ⊢
  have hA : ∀ q : Nat, s.heap.size ≤ q → A q := fun q h => by rw [← hAe]; exact Or.inr h
  have hS : va_S A s.heap s.heap [] := va_S.rf
  have hl := lv_entry ([.ref (b 0), .int p0]) (n := 2) (Nat.le_of_ble_eq_true rfl)
  rw [lg_entry_eq]
  generalize (lg_sl ([.ref (b 0), .int p0]) ++ List.replicate (2 - (lg_sl ([.ref (b 0), .int p0])).length) Slot.unset).toArray = ls at hl ⊢
  have hl : lv_has ls 2 [(0, .ref (b 0)), (1, .int p0)] := hl
  refine lv_aload_n hx hb dX12_wants_0 rfl (lv_at hl 0 rfl) ?_
  refine lv_iconst (v := 0) hx hb dX12_wants_1 (by decide) ?_
  refine va_put (D := (dC, dI)) (ci := 12) (v := .int 0) (ty := .int) (C := RX12) (T := TX12) (N := 59) hx hb hts i_X12_wants_X12 tyX12 tyX12_ok nmX12 hown hK hP hD hS 0 rfl rfl 0 (by decide) (hts _ m_X12_wants_0) (fun _ h9 => h9) rfl (by decide +kernel) rfl rfl (Nat.le_of_ble_eq_true rfl) dX12_wants_2 (fun H locs hP hD hS => ?_)
  have hP : va_P (dC, dI) vwCl (mw b cy) H := hP
  have hD : va_D A (mw b cy) := hD
  refine lv_aload_n hx hb dX12_wants_5 rfl (lv_at hl 0 rfl) ?_
  refine lv_iload_n hx hb dX12_wants_6 rfl (lv_at hl 1 rfl) ?_
  refine lv_iconst (v := 1) hx hb dX12_wants_7 (by decide) ?_
  refine tk_pi (va_runV (As := [.int p0, .int 1]) (rest := []) ⟨hx, hb, hml, hown, hts⟩ (c_X12_isOf l dC dI cy b p0 1) (cwV 2 hts g_X12_wants_X12_isOf_143 rfl rfl rfl (by decide +kernel) ⟨Nat.le_of_ble_eq_true rfl, Nat.le_of_ble_eq_true rfl⟩) (pv_pp hC hP (ci := 12) (q0 := 0) rfl rfl) rfl rfl hl.1 rfl (lv_room (Nat.le_of_ble_eq_true rfl)) dX12_wants_8 ⟨Nat.le_of_ble_eq_true rfl, Nat.le_of_ble_eq_true rfl⟩) hP hS (fun r_ H locs hw hP hS => ?_)
  rcases hw with ⟨c1_, rfl⟩ | ⟨c2_, c3_, rfl⟩ | ⟨c4_, c5_, rfl⟩ | ⟨c6_, -, rfl⟩
  · skip
    refine lv_if_eq (tgt := 22) hx hb dX12_wants_11 (by decide) (fun _ => ?_) (fun c9_ => absurd (by decide) c9_)
    refine lv_ldc2 (v := (-1)) hx hb hown (hts _ m_X12_wants_1) dX12_wants_22 ?_
    refine tk_l (Int32.toInt64 (-1)) (by decide) ?_
    exact W.lret (v := (Int32.toInt64 (-1))) hx hb hr (fun t ht hW => ⟨⟨(Int32.toInt64 (-1)), (), rfl, Or.inl (⟨c1_, rfl⟩), trivial⟩, hS.F ht⟩) hS.2.2 dX12_wants_25
  · skip
    refine lv_if_eq (tgt := 22) hx hb dX12_wants_11 (by decide) (fun _ => ?_) (fun c9_ => absurd (by decide) c9_)
    refine lv_ldc2 (v := (-1)) hx hb hown (hts _ m_X12_wants_1) dX12_wants_22 ?_
    refine tk_l (Int32.toInt64 (-1)) (by decide) ?_
    exact W.lret (v := (Int32.toInt64 (-1))) hx hb hr (fun t ht hW => ⟨⟨(Int32.toInt64 (-1)), (), rfl, Or.inr (Or.inl (⟨c2_, c3_, rfl⟩)), trivial⟩, hS.F ht⟩) hS.2.2 dX12_wants_25
  · skip
    exact absurd c5_ (by decide)
  · skip
    subst c6_
    refine lv_if_eq (tgt := 22) hx hb dX12_wants_11 (by decide) (fun c9_ => absurd c9_ (by decide)) (fun _ => ?_)
    refine lv_aload_n hx hb dX12_wants_14 rfl (lv_at hl 0 rfl) ?_
    refine lv_iload_n hx hb dX12_wants_15 rfl (lv_at hl 1 rfl) ?_
    refine tk_pl (va_runV (As := [.int 0]) (rest := []) ⟨hx, hb, hml, hown, hts⟩ (c_X12_wantsOf_0 l dC dI cy b) (cwV 1 hts g_X12_wants_X12_wantsOf_529 rfl rfl rfl (by decide +kernel) ⟨Nat.le_of_ble_eq_true rfl, Nat.le_of_ble_eq_true rfl⟩) (pv_pp hC hP (ci := 12) (q0 := 0) rfl rfl) rfl rfl hl.1 rfl (lv_room (Nat.le_of_ble_eq_true rfl)) dX12_wants_16 ⟨Nat.le_of_ble_eq_true rfl, Nat.le_of_ble_eq_true rfl⟩) hP hS (fun r_ H locs hw hP hS => ?_)
    subst hw
    refine lv_goto (tgt := 25) hx hb dX12_wants_19 (by decide) ?_
    exact W.lret (v := (Int32.toInt64 0)) hx hb hr (fun t ht hW => ⟨⟨(Int32.toInt64 0), (), rfl, Or.inr (Or.inr (⟨rfl, rfl⟩)), trivial⟩, hS.F ht⟩) hS.2.2 dX12_wants_25

theorem dX12_wanted_0 : decode cX12_wanted 0 = .ok (.aload_n 0, 1) := by decide +kernel
theorem dX12_wanted_1 : decode cX12_wanted 1 = .ok (.iconst 0, 1) := by decide +kernel
theorem dX12_wanted_2 : decode cX12_wanted 2 = .ok (.putfield 105, 3) := by decide +kernel
theorem dX12_wanted_5 : decode cX12_wanted 5 = .ok (.aload_n 0, 1) := by decide +kernel
theorem dX12_wanted_6 : decode cX12_wanted 6 = .ok (.iload_n 1, 1) := by decide +kernel
theorem dX12_wanted_7 : decode cX12_wanted 7 = .ok (.iconst 2, 1) := by decide +kernel
theorem dX12_wanted_8 : decode cX12_wanted 8 = .ok (.invokevirtual 143, 3) := by decide +kernel
theorem dX12_wanted_11 : decode cX12_wanted 11 = .ok (.ifCond .ne 7, 3) := by decide +kernel
theorem dX12_wanted_14 : decode cX12_wanted 14 = .ok (.ldc2_w 532, 3) := by decide +kernel
theorem dX12_wanted_17 : decode cX12_wanted 17 = .ok (.lreturn, 1) := by decide +kernel
def v_X12_wanted : List Cond := .code yX12_wanted cX12_wanted 5 (some .long) :: ([.fieldLink RX12 105 "RestBoardModel" "thrown" "I", .constantLong RX12 532 (-1), .methodLink RX12 143 yX12_isOf, .instanceMethod yX12_isOf, .selects RX12 yX12_isOf yX12_isOf, .initialized RX12, .code yX12_isOf cX12_isOf 3 (some .boolean), .methodLink RX12 132 yX12_isNode, .instanceMethod yX12_isNode, .selects RX12 yX12_isNode yX12_isNode, .code yX12_isNode cX12_isNode 2 (some .boolean), .fieldLink RX12 13 "RestBoardModel" "row" "[I", .methodLink RX12 128 yX12_in, .static yX12_in, .code yX12_in cX12_in 6 (some .boolean), .methodLink RX12 136 yX12_kind, .instanceMethod yX12_kind, .selects RX12 yX12_kind yX12_kind, .code yX12_kind cX12_kind 2 (some .int), .methodLink RX12 125 yX12_at, .static yX12_at, .code yX12_at cX12_at 1 (some .int)] ++ wsX120)
theorem m_X12_wanted_0 : (.fieldLink RX12 105 "RestBoardModel" "thrown" "I" : Cond) ∈ v_X12_wanted := List.mem_of_getElem? (i := 1) (by decide +kernel)
theorem m_X12_wanted_1 : (.constantLong RX12 532 (-1) : Cond) ∈ v_X12_wanted := List.mem_of_getElem? (i := 2) (by decide +kernel)
theorem i_X12_wanted_X12 : ∀ w ∈ u_ws RX12 TX12 59, w ∈ v_X12_wanted := fun w h => List.mem_cons_of_mem _ (List.mem_append_right _ h)
set_option maxRecDepth 100000 in
theorem gg_X12_wanted_X12_isOf_143 : GoodIn v_X12_wanted v_X12_isOf := goodIn_r _ [7, 8, 9, 10, 6, 11, 12, 13, 14, 15, 16, 17, 18, 19, 20, 21, 22, 23, 24, 25, 26, 27, 28, 29, 30, 31, 32, 33, 34, 35, 36, 37, 38, 39, 40, 41, 42, 43, 44, 45, 46, 47, 48, 49, 50, 51, 52, 53, 54, 55, 56, 57, 58, 59, 60, 61, 62, 63, 64, 65, 66, 67, 68, 69, 70, 71, 72, 73, 74, 75, 76, 77, 78, 79, 80, 81] (by decide +kernel) (by decide +kernel)
set_option maxRecDepth 100000 in
theorem g_X12_wanted_X12_isOf_143 : GoodIn v_X12_wanted (wsV RX12 143 RX12 yX12_isOf v_X12_isOf) := goodIn_app (goodIn_r _ [3, 4, 5, 6] (by decide +kernel) (by decide +kernel)) gg_X12_wanted_X12_isOf_143
set_option maxHeartbeats 4000000 in
set_option maxRecDepth 100000 in
theorem c_X12_wanted (l : Launch) (dC : Nat → ClassId) (dI : Nat → Nat → Nat) (cy : Nat → ClassId) (b : Nat → Nat) (sz : Nat) (p0 : Int32) : Met l yX12_wanted v_X12_wanted ({ frames := 3, cells := 0, slots := 0, locals := 68 }) (va_Pc [.ref (b 0), .int p0] (ps dC dI cy (mw b cy) sz)) (va_Ql (fun (r : Int64) (_ : Unit) => ((p0 < 0) ∧ r = (Int32.toInt64 (-1))) ∨ ((¬ p0 < 0) ∧ ((0 : Int32) < p0) ∧ r = (Int32.toInt64 (-1))) ∨ ((p0 = 0) ∧ r = (Int32.toInt64 (-1)))) (fun _ _ => True) (va_A (mw b cy) sz)) 0 0 (va_A (mw b cy) sz) := by
  refine Met.ofW (cc := cX12_wanted) (maxL := 5) (ret := (some .long)) (by decide) rfl ?_
  intro p e s m args below meth c s₁ B hml hv
  obtain ⟨rfl, hsz, hP, hC, hD0⟩ := hv
  have hK := hC.1
  have hx := B.exec
  have hb := B.bytes
  have hr := B.returns
  have hts := atoms_spec (ws := v_X12_wanted) B.pre
  have hown : s.vm.findClass RX12 = some m.cls := findClass_of_methodNamed B.named
  have hlocks := B.notSynchronized
  subst hsz
  have hD := hD0.self (sz := s.heap.size)
  generalize hAe : va_A (mw b cy) s.heap.size = A at hD ⊢
  have hA : ∀ q : Nat, s.heap.size ≤ q → A q := fun q h => by rw [← hAe]; exact Or.inr h
  have hS : va_S A s.heap s.heap [] := va_S.rf
  have hl := lv_entry ([.ref (b 0), .int p0]) (n := 5) (Nat.le_of_ble_eq_true rfl)
  rw [lg_entry_eq]
  generalize (lg_sl ([.ref (b 0), .int p0]) ++ List.replicate (5 - (lg_sl ([.ref (b 0), .int p0])).length) Slot.unset).toArray = ls at hl ⊢
  have hl : lv_has ls 5 [(0, .ref (b 0)), (1, .int p0)] := hl
  refine lv_aload_n hx hb dX12_wanted_0 rfl (lv_at hl 0 rfl) ?_
  refine lv_iconst (v := 0) hx hb dX12_wanted_1 (by decide) ?_
  refine va_put (D := (dC, dI)) (ci := 12) (v := .int 0) (ty := .int) (C := RX12) (T := TX12) (N := 59) hx hb hts i_X12_wanted_X12 tyX12 tyX12_ok nmX12 hown hK hP hD hS 0 rfl rfl 0 (by decide) (hts _ m_X12_wanted_0) (fun _ h9 => h9) rfl (by decide +kernel) rfl rfl (Nat.le_of_ble_eq_true rfl) dX12_wanted_2 (fun H locs hP hD hS => ?_)
  have hP : va_P (dC, dI) vwCl (mw b cy) H := hP
  have hD : va_D A (mw b cy) := hD
  refine lv_aload_n hx hb dX12_wanted_5 rfl (lv_at hl 0 rfl) ?_
  refine lv_iload_n hx hb dX12_wanted_6 rfl (lv_at hl 1 rfl) ?_
  refine lv_iconst (v := 2) hx hb dX12_wanted_7 (by decide) ?_
  refine tk_pi (va_runV (As := [.int p0, .int 2]) (rest := []) ⟨hx, hb, hml, hown, hts⟩ (c_X12_isOf l dC dI cy b p0 2) (cwV 2 hts g_X12_wanted_X12_isOf_143 rfl rfl rfl (by decide +kernel) ⟨Nat.le_of_ble_eq_true rfl, Nat.le_of_ble_eq_true rfl⟩) (pv_pp hC hP (ci := 12) (q0 := 0) rfl rfl) rfl rfl hl.1 rfl (lv_room (Nat.le_of_ble_eq_true rfl)) dX12_wanted_8 ⟨Nat.le_of_ble_eq_true rfl, Nat.le_of_ble_eq_true rfl⟩) hP hS (fun r_ H locs hw hP hS => ?_)
  rcases hw with ⟨c1_, rfl⟩ | ⟨c2_, c3_, rfl⟩ | ⟨c4_, -, rfl⟩ | ⟨c6_, c7_, rfl⟩
  · skip
    refine lv_if_ne (tgt := 18) hx hb dX12_wanted_11 (by decide) (fun c9_ => absurd (by decide) c9_) (fun _ => ?_)
    refine lv_ldc2 (v := (-1)) hx hb hown (hts _ m_X12_wanted_1) dX12_wanted_14 ?_
    refine tk_l (Int32.toInt64 (-1)) (by decide) ?_
    exact W.lret (v := (Int32.toInt64 (-1))) hx hb hr (fun t ht hW => ⟨⟨(Int32.toInt64 (-1)), (), rfl, Or.inl (⟨c1_, rfl⟩), trivial⟩, hS.F ht⟩) hS.2.2 dX12_wanted_17
  · skip
    refine lv_if_ne (tgt := 18) hx hb dX12_wanted_11 (by decide) (fun c9_ => absurd (by decide) c9_) (fun _ => ?_)
    refine lv_ldc2 (v := (-1)) hx hb hown (hts _ m_X12_wanted_1) dX12_wanted_14 ?_
    refine tk_l (Int32.toInt64 (-1)) (by decide) ?_
    exact W.lret (v := (Int32.toInt64 (-1))) hx hb hr (fun t ht hW => ⟨⟨(Int32.toInt64 (-1)), (), rfl, Or.inr (Or.inl (⟨c2_, c3_, rfl⟩)), trivial⟩, hS.F ht⟩) hS.2.2 dX12_wanted_17
  · skip
    subst c4_
    refine lv_if_ne (tgt := 18) hx hb dX12_wanted_11 (by decide) (fun c9_ => absurd (by decide) c9_) (fun _ => ?_)
    refine lv_ldc2 (v := (-1)) hx hb hown (hts _ m_X12_wanted_1) dX12_wanted_14 ?_
    refine tk_l (Int32.toInt64 (-1)) (by decide) ?_
    exact W.lret (v := (Int32.toInt64 (-1))) hx hb hr (fun t ht hW => ⟨⟨(Int32.toInt64 (-1)), (), rfl, Or.inr (Or.inr (⟨rfl, rfl⟩)), trivial⟩, hS.F ht⟩) hS.2.2 dX12_wanted_17
  · skip
    exact absurd c7_ (by decide)

theorem dX12_deepest_0 : decode cX12_deepest 0 = .ok (.aload_n 0, 1) := by decide +kernel
theorem dX12_deepest_1 : decode cX12_deepest 1 = .ok (.iconst 0, 1) := by decide +kernel
theorem dX12_deepest_2 : decode cX12_deepest 2 = .ok (.putfield 105, 3) := by decide +kernel
theorem dX12_deepest_5 : decode cX12_deepest 5 = .ok (.iconst 0, 1) := by decide +kernel
theorem dX12_deepest_6 : decode cX12_deepest 6 = .ok (.istore_n 1, 1) := by decide +kernel
theorem dX12_deepest_7 : decode cX12_deepest 7 = .ok (.iconst 1, 1) := by decide +kernel
theorem dX12_deepest_8 : decode cX12_deepest 8 = .ok (.istore_n 2, 1) := by decide +kernel
theorem dX12_deepest_9 : decode cX12_deepest 9 = .ok (.iload_n 2, 1) := by decide +kernel
theorem dX12_deepest_10 : decode cX12_deepest 10 = .ok (.iconst 5, 1) := by decide +kernel
theorem dX12_deepest_11 : decode cX12_deepest 11 = .ok (.if_icmp .ge 23, 3) := by decide +kernel
theorem dX12_deepest_14 : decode cX12_deepest 14 = .ok (.aload_n 0, 1) := by decide +kernel
theorem dX12_deepest_15 : decode cX12_deepest 15 = .ok (.iload_n 2, 1) := by decide +kernel
theorem dX12_deepest_16 : decode cX12_deepest 16 = .ok (.invokevirtual 497, 3) := by decide +kernel
theorem dX12_deepest_19 : decode cX12_deepest 19 = .ok (.ifCond .ne 7, 3) := by decide +kernel
theorem dX12_deepest_26 : decode cX12_deepest 26 = .ok (.iload_n 1, 1) := by decide +kernel
theorem dX12_deepest_27 : decode cX12_deepest 27 = .ok (.istore_n 1, 1) := by decide +kernel
theorem dX12_deepest_28 : decode cX12_deepest 28 = .ok (.iinc 2 1, 3) := by decide +kernel
theorem dX12_deepest_31 : decode cX12_deepest 31 = .ok (.goto (-22), 3) := by decide +kernel
theorem dX12_deepest_34 : decode cX12_deepest 34 = .ok (.iload_n 1, 1) := by decide +kernel
theorem dX12_deepest_35 : decode cX12_deepest 35 = .ok (.ireturn, 1) := by decide +kernel
def v_X12_deepest : List Cond := .code yX12_deepest cX12_deepest 3 (some .int) :: ([.fieldLink RX12 105 "RestBoardModel" "thrown" "I", .methodLink RX12 497 yX12_whyNot, .instanceMethod yX12_whyNot, .selects RX12 yX12_whyNot yX12_whyNot, .initialized RX12, .code yX12_whyNot cX12_whyNot 6 (some .int), .methodLink RX12 467 yX12_restNumber, .instanceMethod yX12_restNumber, .selects RX12 yX12_restNumber yX12_restNumber, .code yX12_restNumber cX12_restNumber 2 (some .int), .methodLink RX12 409 yX12_ownOf, .instanceMethod yX12_ownOf, .selects RX12 yX12_ownOf yX12_ownOf, .code yX12_ownOf cX12_ownOf 5 (some .int), .methodLink RX12 139 yX12_own, .instanceMethod yX12_own, .selects RX12 yX12_own yX12_own, .code yX12_own cX12_own 5 (some .int), .fieldLink RX12 13 "RestBoardModel" "row" "[I"] ++ wsX120)
theorem m_X12_deepest_0 : (.fieldLink RX12 105 "RestBoardModel" "thrown" "I" : Cond) ∈ v_X12_deepest := List.mem_of_getElem? (i := 1) (by decide +kernel)
theorem i_X12_deepest_X12 : ∀ w ∈ u_ws RX12 TX12 59, w ∈ v_X12_deepest := fun w h => List.mem_cons_of_mem _ (List.mem_append_right _ h)
set_option maxRecDepth 100000 in
theorem gg_X12_deepest_X12_whyNot_497 : GoodIn v_X12_deepest v_X12_whyNot := goodIn_r _ [6, 7, 8, 9, 5, 10, 11, 12, 13, 14, 15, 16, 17, 18, 19, 20, 21, 22, 23, 24, 25, 26, 27, 28, 29, 30, 31, 32, 33, 34, 35, 36, 37, 38, 39, 40, 41, 42, 43, 44, 45, 46, 47, 48, 49, 50, 51, 52, 53, 54, 55, 56, 57, 58, 59, 60, 61, 62, 63, 64, 65, 66, 67, 68, 69, 70, 71, 72, 73, 74, 75, 76, 77, 78] (by decide +kernel) (by decide +kernel)
set_option maxRecDepth 100000 in
theorem g_X12_deepest_X12_whyNot_497 : GoodIn v_X12_deepest (wsV RX12 497 RX12 yX12_whyNot v_X12_whyNot) := goodIn_app (goodIn_r _ [2, 3, 4, 5] (by decide +kernel) (by decide +kernel)) gg_X12_deepest_X12_whyNot_497
set_option maxHeartbeats 4000000 in
set_option maxRecDepth 100000 in
theorem c_X12_deepest (l : Launch) (dC : Nat → ClassId) (dI : Nat → Nat → Nat) (cy : Nat → ClassId) (b : Nat → Nat) (sz : Nat) : Met l yX12_deepest v_X12_deepest ({ frames := 4, cells := 0, slots := 0, locals := 94 }) (va_Pc [.ref (b 0)] (ps dC dI cy (mw b cy) sz)) (va_Qi (fun (r : Int32) (_ : Unit) => r = 0) (fun _ _ => True) (va_A (mw b cy) sz)) 0 0 (va_A (mw b cy) sz) := by
  refine Met.ofW (cc := cX12_deepest) (maxL := 3) (ret := (some .int)) (by decide) rfl ?_
  intro p e s m args below meth c s₁ B hml hv
  obtain ⟨rfl, hsz, hP, hC, hD0⟩ := hv
  have hK := hC.1
  have hx := B.exec
  have hb := B.bytes
  have hr := B.returns
  have hts := atoms_spec (ws := v_X12_deepest) B.pre
  have hown : s.vm.findClass RX12 = some m.cls := findClass_of_methodNamed B.named
  have hlocks := B.notSynchronized
  subst hsz
  have hD := hD0.self (sz := s.heap.size)
  generalize hAe : va_A (mw b cy) s.heap.size = A at hD ⊢
  have hA : ∀ q : Nat, s.heap.size ≤ q → A q := fun q h => by rw [← hAe]; exact Or.inr h
  have hS : va_S A s.heap s.heap [] := va_S.rf
  have hl := lv_entry ([.ref (b 0)]) (n := 3) (Nat.le_of_ble_eq_true rfl)
  rw [lg_entry_eq]
  generalize (lg_sl ([.ref (b 0)]) ++ List.replicate (3 - (lg_sl ([.ref (b 0)])).length) Slot.unset).toArray = ls at hl ⊢
  have hl : lv_has ls 3 [(0, .ref (b 0))] := hl
  refine lv_aload_n hx hb dX12_deepest_0 rfl (lv_at hl 0 rfl) ?_
  refine lv_iconst (v := 0) hx hb dX12_deepest_1 (by decide) ?_
  refine va_put (D := (dC, dI)) (ci := 12) (v := .int 0) (ty := .int) (C := RX12) (T := TX12) (N := 59) hx hb hts i_X12_deepest_X12 tyX12 tyX12_ok nmX12 hown hK hP hD hS 0 rfl rfl 0 (by decide) (hts _ m_X12_deepest_0) (fun _ h9 => h9) rfl (by decide +kernel) rfl rfl (Nat.le_of_ble_eq_true rfl) dX12_deepest_2 (fun H locs hP hD hS => ?_)
  have hP : va_P (dC, dI) vwCl (mw b cy) H := hP
  have hD : va_D A (mw b cy) := hD
  refine lv_iconst (v := 0) hx hb dX12_deepest_5 (by decide) ?_
  refine lv_istore_n (lv' := [(1, .int 0), (0, .ref (b 0))]) hx hb dX12_deepest_6 rfl hl (by decide) rfl (fun ls hl => ?_)
  refine lv_iconst (v := 1) hx hb dX12_deepest_7 (by decide) ?_
  refine lv_istore_n (lv' := [(2, .int 1), (1, .int 0), (0, .ref (b 0))]) hx hb dX12_deepest_8 rfl hl (by decide) rfl (fun ls hl => ?_)
  refine lv_iload_n hx hb dX12_deepest_9 rfl (lv_at hl 0 rfl) ?_
  refine lv_iconst (v := 5) hx hb dX12_deepest_10 (by decide) ?_
  refine lv_icmp_ge (tgt := 34) hx hb dX12_deepest_11 (by decide) (fun c9_ => absurd c9_ (by decide)) (fun _ => ?_)
  refine lv_aload_n hx hb dX12_deepest_14 rfl (lv_at hl 2 rfl) ?_
  refine lv_iload_n hx hb dX12_deepest_15 rfl (lv_at hl 0 rfl) ?_
  refine tk_pi (va_runV (As := [.int 1]) (rest := []) ⟨hx, hb, hml, hown, hts⟩ (c_X12_whyNot l dC dI cy b 1) (cwV 1 hts g_X12_deepest_X12_whyNot_497 rfl rfl rfl (by decide +kernel) ⟨Nat.le_of_ble_eq_true rfl, Nat.le_of_ble_eq_true rfl⟩) (pv_pp hC hP (ci := 12) (q0 := 0) rfl rfl) rfl rfl hl.1 rfl (lv_room (Nat.le_of_ble_eq_true rfl)) dX12_deepest_16 ⟨Nat.le_of_ble_eq_true rfl, Nat.le_of_ble_eq_true rfl⟩) hP hS (fun r_ H locs hw hP hS => ?_)
  subst hw
  refine lv_if_ne (tgt := 26) hx hb dX12_deepest_19 (by decide) (fun _ => ?_) (fun c9_ => absurd c9_ (by decide))
  refine lv_iload_n hx hb dX12_deepest_26 rfl (lv_at hl 1 rfl) ?_
  refine lv_istore_n (lv' := [(1, .int 0), (2, .int 1), (0, .ref (b 0))]) hx hb dX12_deepest_27 rfl hl (by decide) rfl (fun ls hl => ?_)
  refine lv_iinc (v := 2) (lv' := [(2, .int 2), (1, .int 0), (0, .ref (b 0))]) hx hb dX12_deepest_28 hl (k := 1) rfl (by decide) (by decide) rfl (fun ls hl => ?_)
  refine lv_goto (tgt := 9) hx hb dX12_deepest_31 (by decide) ?_
  refine lv_iload_n hx hb dX12_deepest_9 rfl (lv_at hl 0 rfl) ?_
  refine lv_iconst (v := 5) hx hb dX12_deepest_10 (by decide) ?_
  refine lv_icmp_ge (tgt := 34) hx hb dX12_deepest_11 (by decide) (fun c9_ => absurd c9_ (by decide)) (fun _ => ?_)
  refine lv_aload_n hx hb dX12_deepest_14 rfl (lv_at hl 2 rfl) ?_
  refine lv_iload_n hx hb dX12_deepest_15 rfl (lv_at hl 0 rfl) ?_
  refine tk_pi (va_runV (As := [.int 2]) (rest := []) ⟨hx, hb, hml, hown, hts⟩ (c_X12_whyNot l dC dI cy b 2) (cwV 1 hts g_X12_deepest_X12_whyNot_497 rfl rfl rfl (by decide +kernel) ⟨Nat.le_of_ble_eq_true rfl, Nat.le_of_ble_eq_true rfl⟩) (pv_pp hC hP (ci := 12) (q0 := 0) rfl rfl) rfl rfl hl.1 rfl (lv_room (Nat.le_of_ble_eq_true rfl)) dX12_deepest_16 ⟨Nat.le_of_ble_eq_true rfl, Nat.le_of_ble_eq_true rfl⟩) hP hS (fun r_ H locs hw hP hS => ?_)
  subst hw
  refine lv_if_ne (tgt := 26) hx hb dX12_deepest_19 (by decide) (fun _ => ?_) (fun c9_ => absurd c9_ (by decide))
  refine lv_iload_n hx hb dX12_deepest_26 rfl (lv_at hl 1 rfl) ?_
  refine lv_istore_n (lv' := [(1, .int 0), (2, .int 2), (0, .ref (b 0))]) hx hb dX12_deepest_27 rfl hl (by decide) rfl (fun ls hl => ?_)
  refine lv_iinc (v := 3) (lv' := [(2, .int 3), (1, .int 0), (0, .ref (b 0))]) hx hb dX12_deepest_28 hl (k := 1) rfl (by decide) (by decide) rfl (fun ls hl => ?_)
  refine lv_goto (tgt := 9) hx hb dX12_deepest_31 (by decide) ?_
  refine lv_iload_n hx hb dX12_deepest_9 rfl (lv_at hl 0 rfl) ?_
  refine lv_iconst (v := 5) hx hb dX12_deepest_10 (by decide) ?_
  refine lv_icmp_ge (tgt := 34) hx hb dX12_deepest_11 (by decide) (fun c9_ => absurd c9_ (by decide)) (fun _ => ?_)
  refine lv_aload_n hx hb dX12_deepest_14 rfl (lv_at hl 2 rfl) ?_
  refine lv_iload_n hx hb dX12_deepest_15 rfl (lv_at hl 0 rfl) ?_
  refine tk_pi (va_runV (As := [.int 3]) (rest := []) ⟨hx, hb, hml, hown, hts⟩ (c_X12_whyNot l dC dI cy b 3) (cwV 1 hts g_X12_deepest_X12_whyNot_497 rfl rfl rfl (by decide +kernel) ⟨Nat.le_of_ble_eq_true rfl, Nat.le_of_ble_eq_true rfl⟩) (pv_pp hC hP (ci := 12) (q0 := 0) rfl rfl) rfl rfl hl.1 rfl (lv_room (Nat.le_of_ble_eq_true rfl)) dX12_deepest_16 ⟨Nat.le_of_ble_eq_true rfl, Nat.le_of_ble_eq_true rfl⟩) hP hS (fun r_ H locs hw hP hS => ?_)
  subst hw
  refine lv_if_ne (tgt := 26) hx hb dX12_deepest_19 (by decide) (fun _ => ?_) (fun c9_ => absurd c9_ (by decide))
  refine lv_iload_n hx hb dX12_deepest_26 rfl (lv_at hl 1 rfl) ?_
  refine lv_istore_n (lv' := [(1, .int 0), (2, .int 3), (0, .ref (b 0))]) hx hb dX12_deepest_27 rfl hl (by decide) rfl (fun ls hl => ?_)
  refine lv_iinc (v := 4) (lv' := [(2, .int 4), (1, .int 0), (0, .ref (b 0))]) hx hb dX12_deepest_28 hl (k := 1) rfl (by decide) (by decide) rfl (fun ls hl => ?_)
  refine lv_goto (tgt := 9) hx hb dX12_deepest_31 (by decide) ?_
  refine lv_iload_n hx hb dX12_deepest_9 rfl (lv_at hl 0 rfl) ?_
  refine lv_iconst (v := 5) hx hb dX12_deepest_10 (by decide) ?_
  refine lv_icmp_ge (tgt := 34) hx hb dX12_deepest_11 (by decide) (fun c9_ => absurd c9_ (by decide)) (fun _ => ?_)
  refine lv_aload_n hx hb dX12_deepest_14 rfl (lv_at hl 2 rfl) ?_
  refine lv_iload_n hx hb dX12_deepest_15 rfl (lv_at hl 0 rfl) ?_
  refine tk_pi (va_runV (As := [.int 4]) (rest := []) ⟨hx, hb, hml, hown, hts⟩ (c_X12_whyNot l dC dI cy b 4) (cwV 1 hts g_X12_deepest_X12_whyNot_497 rfl rfl rfl (by decide +kernel) ⟨Nat.le_of_ble_eq_true rfl, Nat.le_of_ble_eq_true rfl⟩) (pv_pp hC hP (ci := 12) (q0 := 0) rfl rfl) rfl rfl hl.1 rfl (lv_room (Nat.le_of_ble_eq_true rfl)) dX12_deepest_16 ⟨Nat.le_of_ble_eq_true rfl, Nat.le_of_ble_eq_true rfl⟩) hP hS (fun r_ H locs hw hP hS => ?_)
  subst hw
  refine lv_if_ne (tgt := 26) hx hb dX12_deepest_19 (by decide) (fun _ => ?_) (fun c9_ => absurd c9_ (by decide))
  refine lv_iload_n hx hb dX12_deepest_26 rfl (lv_at hl 1 rfl) ?_
  refine lv_istore_n (lv' := [(1, .int 0), (2, .int 4), (0, .ref (b 0))]) hx hb dX12_deepest_27 rfl hl (by decide) rfl (fun ls hl => ?_)
  refine lv_iinc (v := 5) (lv' := [(2, .int 5), (1, .int 0), (0, .ref (b 0))]) hx hb dX12_deepest_28 hl (k := 1) rfl (by decide) (by decide) rfl (fun ls hl => ?_)
  refine lv_goto (tgt := 9) hx hb dX12_deepest_31 (by decide) ?_
  refine lv_iload_n hx hb dX12_deepest_9 rfl (lv_at hl 0 rfl) ?_
  refine lv_iconst (v := 5) hx hb dX12_deepest_10 (by decide) ?_
  refine lv_icmp_ge (tgt := 34) hx hb dX12_deepest_11 (by decide) (fun _ => ?_) (fun c9_ => absurd (by decide) c9_)
  refine lv_iload_n hx hb dX12_deepest_34 rfl (lv_at hl 1 rfl) ?_
  exact W.iret (v := 0) hx hb hr (fun t ht hW => ⟨⟨0, (), rfl, rfl, trivial⟩, hS.F ht⟩) hS.2.2 dX12_deepest_35

theorem dX12_why_0 : decode cX12_why 0 = .ok (.aload_n 0, 1) := by decide +kernel
theorem dX12_why_1 : decode cX12_why 1 = .ok (.iconst 0, 1) := by decide +kernel
theorem dX12_why_2 : decode cX12_why 2 = .ok (.putfield 105, 3) := by decide +kernel
theorem dX12_why_5 : decode cX12_why 5 = .ok (.iload_n 1, 1) := by decide +kernel
theorem dX12_why_6 : decode cX12_why 6 = .ok (.i2l, 1) := by decide +kernel
theorem dX12_why_7 : decode cX12_why 7 = .ok (.lconst 1, 1) := by decide +kernel
theorem dX12_why_8 : decode cX12_why 8 = .ok (.ldc2_w 462, 3) := by decide +kernel
theorem dX12_why_11 : decode cX12_why 11 = .ok (.invokestatic 128, 3) := by decide +kernel
theorem dX12_why_14 : decode cX12_why 14 = .ok (.ifCond .eq 11, 3) := by decide +kernel
theorem dX12_why_17 : decode cX12_why 17 = .ok (.aload_n 0, 1) := by decide +kernel
theorem dX12_why_18 : decode cX12_why 18 = .ok (.iload_n 1, 1) := by decide +kernel
theorem dX12_why_19 : decode cX12_why 19 = .ok (.invokevirtual 497, 3) := by decide +kernel
theorem dX12_why_22 : decode cX12_why 22 = .ok (.goto 4, 3) := by decide +kernel
theorem dX12_why_25 : decode cX12_why 25 = .ok (.iconst (-1), 1) := by decide +kernel
theorem dX12_why_26 : decode cX12_why 26 = .ok (.ireturn, 1) := by decide +kernel
def v_X12_why : List Cond := .code yX12_why cX12_why 2 (some .int) :: ([.fieldLink RX12 105 "RestBoardModel" "thrown" "I", .constantLong RX12 462 (4), .methodLink RX12 128 yX12_in, .static yX12_in, .initialized RX12, .code yX12_in cX12_in 6 (some .boolean), .methodLink RX12 497 yX12_whyNot, .instanceMethod yX12_whyNot, .selects RX12 yX12_whyNot yX12_whyNot, .code yX12_whyNot cX12_whyNot 6 (some .int), .methodLink RX12 467 yX12_restNumber, .instanceMethod yX12_restNumber, .selects RX12 yX12_restNumber yX12_restNumber, .code yX12_restNumber cX12_restNumber 2 (some .int), .methodLink RX12 409 yX12_ownOf, .instanceMethod yX12_ownOf, .selects RX12 yX12_ownOf yX12_ownOf, .code yX12_ownOf cX12_ownOf 5 (some .int), .methodLink RX12 139 yX12_own, .instanceMethod yX12_own, .selects RX12 yX12_own yX12_own, .code yX12_own cX12_own 5 (some .int), .fieldLink RX12 13 "RestBoardModel" "row" "[I"] ++ wsX120)
theorem m_X12_why_0 : (.fieldLink RX12 105 "RestBoardModel" "thrown" "I" : Cond) ∈ v_X12_why := List.mem_of_getElem? (i := 1) (by decide +kernel)
theorem m_X12_why_1 : (.constantLong RX12 462 (4) : Cond) ∈ v_X12_why := List.mem_of_getElem? (i := 2) (by decide +kernel)
theorem i_X12_why_X12 : ∀ w ∈ u_ws RX12 TX12 59, w ∈ v_X12_why := fun w h => List.mem_cons_of_mem _ (List.mem_append_right _ h)
set_option maxRecDepth 100000 in
theorem gg_X12_why_X12_in_128 : GoodIn v_X12_why v_X12_in := goodIn_r _ [6] (by decide +kernel) (by decide +kernel)
set_option maxRecDepth 100000 in
theorem g_X12_why_X12_in_128 : GoodIn v_X12_why (va_wsS RX12 128 yX12_in v_X12_in) := goodIn_app (goodIn_r _ [3, 4, 5] (by decide +kernel) (by decide +kernel)) gg_X12_why_X12_in_128
set_option maxRecDepth 100000 in
theorem gg_X12_why_X12_whyNot_497 : GoodIn v_X12_why v_X12_whyNot := goodIn_r _ [10, 11, 12, 13, 5, 14, 15, 16, 17, 18, 19, 20, 21, 22, 23, 24, 25, 26, 27, 28, 29, 30, 31, 32, 33, 34, 35, 36, 37, 38, 39, 40, 41, 42, 43, 44, 45, 46, 47, 48, 49, 50, 51, 52, 53, 54, 55, 56, 57, 58, 59, 60, 61, 62, 63, 64, 65, 66, 67, 68, 69, 70, 71, 72, 73, 74, 75, 76, 77, 78, 79, 80, 81, 82] (by decide +kernel) (by decide +kernel)
set_option maxRecDepth 100000 in
theorem g_X12_why_X12_whyNot_497 : GoodIn v_X12_why (wsV RX12 497 RX12 yX12_whyNot v_X12_whyNot) := goodIn_app (goodIn_r _ [7, 8, 9, 5] (by decide +kernel) (by decide +kernel)) gg_X12_why_X12_whyNot_497
set_option maxHeartbeats 4000000 in
set_option maxRecDepth 100000 in
theorem c_X12_why (l : Launch) (dC : Nat → ClassId) (dI : Nat → Nat → Nat) (cy : Nat → ClassId) (b : Nat → Nat) (sz : Nat) (p0 : Int32) : Met l yX12_why v_X12_why ({ frames := 4, cells := 0, slots := 0, locals := 94 }) (va_Pc [.ref (b 0), .int p0] (ps dC dI cy (mw b cy) sz)) (va_Qi (fun (r : Int32) (_ : Unit) => ((p0 < 1) ∧ r = (-1)) ∨ ((¬ p0 < 1) ∧ ((4 : Int32) < p0) ∧ r = (-1)) ∨ ((¬ p0 < 1) ∧ (¬ (4 : Int32) < p0) ∧ r = 1)) (fun _ _ => True) (va_A (mw b cy) sz)) 0 0 (va_A (mw b cy) sz) := by
  refine Met.ofW (cc := cX12_why) (maxL := 2) (ret := (some .int)) (by decide) rfl ?_
  intro p e s m args below meth c s₁ B hml hv
  obtain ⟨rfl, hsz, hP, hC, hD0⟩ := hv
  have hK := hC.1
  have hx := B.exec
  have hb := B.bytes
  have hr := B.returns
  have hts := atoms_spec (ws := v_X12_why) B.pre
  have hown : s.vm.findClass RX12 = some m.cls := findClass_of_methodNamed B.named
  have hlocks := B.notSynchronized
  subst hsz
  have hD := hD0.self (sz := s.heap.size)
  generalize hAe : va_A (mw b cy) s.heap.size = A at hD ⊢
  have hA : ∀ q : Nat, s.heap.size ≤ q → A q := fun q h => by rw [← hAe]; exact Or.inr h
  have hS : va_S A s.heap s.heap [] := va_S.rf
  have hl := lv_entry ([.ref (b 0), .int p0]) (n := 2) (Nat.le_of_ble_eq_true rfl)
  rw [lg_entry_eq]
  generalize (lg_sl ([.ref (b 0), .int p0]) ++ List.replicate (2 - (lg_sl ([.ref (b 0), .int p0])).length) Slot.unset).toArray = ls at hl ⊢
  have hl : lv_has ls 2 [(0, .ref (b 0)), (1, .int p0)] := hl
  refine lv_aload_n hx hb dX12_why_0 rfl (lv_at hl 0 rfl) ?_
  refine lv_iconst (v := 0) hx hb dX12_why_1 (by decide) ?_
  refine va_put (D := (dC, dI)) (ci := 12) (v := .int 0) (ty := .int) (C := RX12) (T := TX12) (N := 59) hx hb hts i_X12_why_X12 tyX12 tyX12_ok nmX12 hown hK hP hD hS 0 rfl rfl 0 (by decide) (hts _ m_X12_why_0) (fun _ h9 => h9) rfl (by decide +kernel) rfl rfl (Nat.le_of_ble_eq_true rfl) dX12_why_2 (fun H locs hP hD hS => ?_)
  have hP : va_P (dC, dI) vwCl (mw b cy) H := hP
  have hD : va_D A (mw b cy) := hD
  refine lv_iload_n hx hb dX12_why_5 rfl (lv_at hl 1 rfl) ?_
  refine lv_i2l (v := Int32.toInt64 p0) hx hb dX12_why_6 rfl ?_
  refine lv_lconst (v := 1) hx hb dX12_why_7 (by decide) ?_
  refine tk_l (Int32.toInt64 1) (by decide) ?_
  refine lv_ldc2 (v := 4) hx hb hown (hts _ m_X12_why_1) dX12_why_8 ?_
  refine tk_l (Int32.toInt64 4) (by decide) ?_
  refine tk_pi (va_runS (As := [.long (Int32.toInt64 p0), .long (Int32.toInt64 1), .long (Int32.toInt64 4)]) (rest := []) ⟨hx, hb, hml, hown, hts⟩ (c_X12_in l dC dI cy  p0 1 4) (va_cwS 3 hts g_X12_why_X12_in_128 rfl rfl rfl (by decide +kernel) ⟨Nat.le_of_ble_eq_true rfl, Nat.le_of_ble_eq_true rfl⟩) (pS_pp hC va_P0) rfl rfl hl.1 rfl (lv_room (Nat.le_of_ble_eq_true rfl)) dX12_why_11 ⟨Nat.le_of_ble_eq_true rfl, Nat.le_of_ble_eq_true rfl⟩) hP hS (fun r_ H locs hw hP hS => ?_)
  rcases hw with ⟨c1_, rfl⟩ | ⟨c2_, c3_, rfl⟩ | ⟨c4_, c5_, rfl⟩
  · skip
    refine lv_if_eq (tgt := 25) hx hb dX12_why_14 (by decide) (fun _ => ?_) (fun c9_ => absurd (by decide) c9_)
    refine lv_iconst (v := (-1)) hx hb dX12_why_25 (by decide) ?_
    exact W.iret (v := (-1)) hx hb hr (fun t ht hW => ⟨⟨(-1), (), rfl, Or.inl (⟨c1_, rfl⟩), trivial⟩, hS.F ht⟩) hS.2.2 dX12_why_26
  · skip
    refine lv_if_eq (tgt := 25) hx hb dX12_why_14 (by decide) (fun _ => ?_) (fun c9_ => absurd (by decide) c9_)
    refine lv_iconst (v := (-1)) hx hb dX12_why_25 (by decide) ?_
    exact W.iret (v := (-1)) hx hb hr (fun t ht hW => ⟨⟨(-1), (), rfl, Or.inr (Or.inl (⟨c2_, c3_, rfl⟩)), trivial⟩, hS.F ht⟩) hS.2.2 dX12_why_26
  · skip
    refine lv_if_eq (tgt := 25) hx hb dX12_why_14 (by decide) (fun c9_ => absurd c9_ (by decide)) (fun _ => ?_)
    refine lv_aload_n hx hb dX12_why_17 rfl (lv_at hl 0 rfl) ?_
    refine lv_iload_n hx hb dX12_why_18 rfl (lv_at hl 1 rfl) ?_
    refine tk_pi (va_runV (As := [.int p0]) (rest := []) ⟨hx, hb, hml, hown, hts⟩ (c_X12_whyNot l dC dI cy b p0) (cwV 1 hts g_X12_why_X12_whyNot_497 rfl rfl rfl (by decide +kernel) ⟨Nat.le_of_ble_eq_true rfl, Nat.le_of_ble_eq_true rfl⟩) (pv_pp hC hP (ci := 12) (q0 := 0) rfl rfl) rfl rfl hl.1 rfl (lv_room (Nat.le_of_ble_eq_true rfl)) dX12_why_19 ⟨Nat.le_of_ble_eq_true rfl, Nat.le_of_ble_eq_true rfl⟩) hP hS (fun r_ H locs hw hP hS => ?_)
    subst hw
    refine lv_goto (tgt := 26) hx hb dX12_why_22 (by decide) ?_
    exact W.iret (v := 1) hx hb hr (fun t ht hW => ⟨⟨1, (), rfl, Or.inr (Or.inr (⟨c4_, c5_, rfl⟩)), trivial⟩, hS.F ht⟩) hS.2.2 dX12_why_26

theorem dX12_would_0 : decode cX12_would 0 = .ok (.aload_n 0, 1) := by decide +kernel
theorem dX12_would_1 : decode cX12_would 1 = .ok (.iconst 0, 1) := by decide +kernel
theorem dX12_would_2 : decode cX12_would 2 = .ok (.putfield 105, 3) := by decide +kernel
theorem dX12_would_5 : decode cX12_would 5 = .ok (.aload_n 0, 1) := by decide +kernel
theorem dX12_would_6 : decode cX12_would 6 = .ok (.iload_n 1, 1) := by decide +kernel
theorem dX12_would_7 : decode cX12_would 7 = .ok (.invokevirtual 500, 3) := by decide +kernel
theorem dX12_would_10 : decode cX12_would 10 = .ok (.istore_n 2, 1) := by decide +kernel
theorem dX12_would_11 : decode cX12_would 11 = .ok (.iload_n 2, 1) := by decide +kernel
theorem dX12_would_12 : decode cX12_would 12 = .ok (.ifCond .ge 5, 3) := by decide +kernel
theorem dX12_would_15 : decode cX12_would 15 = .ok (.iload_n 2, 1) := by decide +kernel
theorem dX12_would_16 : decode cX12_would 16 = .ok (.ireturn, 1) := by decide +kernel
def v_X12_would : List Cond := .code yX12_would cX12_would 4 (some .int) :: ([.fieldLink RX12 105 "RestBoardModel" "thrown" "I", .methodLink RX12 500 yX12_whyRest, .instanceMethod yX12_whyRest, .selects RX12 yX12_whyRest yX12_whyRest, .initialized RX12, .code yX12_whyRest cX12_whyRest 2 (some .int), .constantLong RX12 462 (4), .fieldLink RX12 13 "RestBoardModel" "row" "[I", .methodLink RX12 128 yX12_in, .static yX12_in, .code yX12_in cX12_in 6 (some .boolean), .methodLink RX12 497 yX12_whyNot, .instanceMethod yX12_whyNot, .selects RX12 yX12_whyNot yX12_whyNot, .code yX12_whyNot cX12_whyNot 6 (some .int), .methodLink RX12 467 yX12_restNumber, .instanceMethod yX12_restNumber, .selects RX12 yX12_restNumber yX12_restNumber, .code yX12_restNumber cX12_restNumber 2 (some .int), .methodLink RX12 409 yX12_ownOf, .instanceMethod yX12_ownOf, .selects RX12 yX12_ownOf yX12_ownOf, .code yX12_ownOf cX12_ownOf 5 (some .int), .methodLink RX12 139 yX12_own, .instanceMethod yX12_own, .selects RX12 yX12_own yX12_own, .code yX12_own cX12_own 5 (some .int)] ++ wsX120)
theorem m_X12_would_0 : (.fieldLink RX12 105 "RestBoardModel" "thrown" "I" : Cond) ∈ v_X12_would := List.mem_of_getElem? (i := 1) (by decide +kernel)
theorem i_X12_would_X12 : ∀ w ∈ u_ws RX12 TX12 59, w ∈ v_X12_would := fun w h => List.mem_cons_of_mem _ (List.mem_append_right _ h)
set_option maxRecDepth 100000 in
theorem gg_X12_would_X12_whyRest_500 : GoodIn v_X12_would v_X12_whyRest := goodIn_r _ [6, 7, 8, 9, 10, 5, 11, 12, 13, 14, 15, 16, 17, 18, 19, 20, 21, 22, 23, 24, 25, 26, 27, 28, 29, 30, 31, 32, 33, 34, 35, 36, 37, 38, 39, 40, 41, 42, 43, 44, 45, 46, 47, 48, 49, 50, 51, 52, 53, 54, 55, 56, 57, 58, 59, 60, 61, 62, 63, 64, 65, 66, 67, 68, 69, 70, 71, 72, 73, 74, 75, 76, 77, 78, 79, 80, 81, 82, 83, 84, 85, 86] (by decide +kernel) (by decide +kernel)
set_option maxRecDepth 100000 in
theorem g_X12_would_X12_whyRest_500 : GoodIn v_X12_would (wsV RX12 500 RX12 yX12_whyRest v_X12_whyRest) := goodIn_app (goodIn_r _ [2, 3, 4, 5] (by decide +kernel) (by decide +kernel)) gg_X12_would_X12_whyRest_500
set_option maxHeartbeats 4000000 in
set_option maxRecDepth 100000 in
theorem c_X12_would (l : Launch) (dC : Nat → ClassId) (dI : Nat → Nat → Nat) (cy : Nat → ClassId) (b : Nat → Nat) (sz : Nat) (p0 : Int32) : Met l yX12_would v_X12_would ({ frames := 5, cells := 0, slots := 0, locals := 115 }) (va_Pc [.ref (b 0), .int p0] (ps dC dI cy (mw b cy) sz)) (va_Qi (fun (r : Int32) (_ : Unit) => ((p0 < 1) ∧ r = (-1)) ∨ ((¬ p0 < 1) ∧ ((4 : Int32) < p0) ∧ r = (-1)) ∨ ((¬ p0 < 1) ∧ (¬ (4 : Int32) < p0) ∧ r = (-4))) (fun _ _ => True) (va_A (mw b cy) sz)) 0 0 (va_A (mw b cy) sz) := by
  refine Met.ofW (cc := cX12_would) (maxL := 4) (ret := (some .int)) (by decide) rfl ?_
  intro p e s m args below meth c s₁ B hml hv
  obtain ⟨rfl, hsz, hP, hC, hD0⟩ := hv
  have hK := hC.1
  have hx := B.exec
  have hb := B.bytes
  have hr := B.returns
  have hts := atoms_spec (ws := v_X12_would) B.pre
  have hown : s.vm.findClass RX12 = some m.cls := findClass_of_methodNamed B.named
  have hlocks := B.notSynchronized
  subst hsz
  have hD := hD0.self (sz := s.heap.size)
  generalize hAe : va_A (mw b cy) s.heap.size = A at hD ⊢
  have hA : ∀ q : Nat, s.heap.size ≤ q → A q := fun q h => by rw [← hAe]; exact Or.inr h
  have hS : va_S A s.heap s.heap [] := va_S.rf
  have hl := lv_entry ([.ref (b 0), .int p0]) (n := 4) (Nat.le_of_ble_eq_true rfl)
  rw [lg_entry_eq]
  generalize (lg_sl ([.ref (b 0), .int p0]) ++ List.replicate (4 - (lg_sl ([.ref (b 0), .int p0])).length) Slot.unset).toArray = ls at hl ⊢
  have hl : lv_has ls 4 [(0, .ref (b 0)), (1, .int p0)] := hl
  refine lv_aload_n hx hb dX12_would_0 rfl (lv_at hl 0 rfl) ?_
  refine lv_iconst (v := 0) hx hb dX12_would_1 (by decide) ?_
  refine va_put (D := (dC, dI)) (ci := 12) (v := .int 0) (ty := .int) (C := RX12) (T := TX12) (N := 59) hx hb hts i_X12_would_X12 tyX12 tyX12_ok nmX12 hown hK hP hD hS 0 rfl rfl 0 (by decide) (hts _ m_X12_would_0) (fun _ h9 => h9) rfl (by decide +kernel) rfl rfl (Nat.le_of_ble_eq_true rfl) dX12_would_2 (fun H locs hP hD hS => ?_)
  have hP : va_P (dC, dI) vwCl (mw b cy) H := hP
  have hD : va_D A (mw b cy) := hD
  refine lv_aload_n hx hb dX12_would_5 rfl (lv_at hl 0 rfl) ?_
  refine lv_iload_n hx hb dX12_would_6 rfl (lv_at hl 1 rfl) ?_
  refine tk_pi (va_runV (As := [.int p0]) (rest := []) ⟨hx, hb, hml, hown, hts⟩ (c_X12_whyRest l dC dI cy b p0) (cwV 1 hts g_X12_would_X12_whyRest_500 rfl rfl rfl (by decide +kernel) ⟨Nat.le_of_ble_eq_true rfl, Nat.le_of_ble_eq_true rfl⟩) (pv_pp hC hP (ci := 12) (q0 := 0) rfl rfl) rfl rfl hl.1 rfl (lv_room (Nat.le_of_ble_eq_true rfl)) dX12_would_7 ⟨Nat.le_of_ble_eq_true rfl, Nat.le_of_ble_eq_true rfl⟩) hP hS (fun r_ H locs hw hP hS => ?_)
  rcases hw with ⟨c1_, rfl⟩ | ⟨c2_, c3_, rfl⟩ | ⟨c4_, c5_, rfl⟩
  · skip
    refine lv_istore_n (lv' := [(2, .int (-1)), (0, .ref (b 0)), (1, .int p0)]) hx hb dX12_would_10 rfl hl (by decide) rfl (fun ls hl => ?_)
    refine lv_iload_n hx hb dX12_would_11 rfl (lv_at hl 0 rfl) ?_
    refine lv_if_ge (tgt := 17) hx hb dX12_would_12 (by decide) (fun c9_ => absurd c9_ (by decide)) (fun _ => ?_)
    refine lv_iload_n hx hb dX12_would_15 rfl (lv_at hl 0 rfl) ?_
    exact W.iret (v := (-1)) hx hb hr (fun t ht hW => ⟨⟨(-1), (), rfl, Or.inl (⟨c1_, rfl⟩), trivial⟩, hS.F ht⟩) hS.2.2 dX12_would_16
  · skip
    refine lv_istore_n (lv' := [(2, .int (-1)), (0, .ref (b 0)), (1, .int p0)]) hx hb dX12_would_10 rfl hl (by decide) rfl (fun ls hl => ?_)
    refine lv_iload_n hx hb dX12_would_11 rfl (lv_at hl 0 rfl) ?_
    refine lv_if_ge (tgt := 17) hx hb dX12_would_12 (by decide) (fun c9_ => absurd c9_ (by decide)) (fun _ => ?_)
    refine lv_iload_n hx hb dX12_would_15 rfl (lv_at hl 0 rfl) ?_
    exact W.iret (v := (-1)) hx hb hr (fun t ht hW => ⟨⟨(-1), (), rfl, Or.inr (Or.inl (⟨c2_, c3_, rfl⟩)), trivial⟩, hS.F ht⟩) hS.2.2 dX12_would_16
  · skip
    refine lv_istore_n (lv' := [(2, .int (-4)), (0, .ref (b 0)), (1, .int p0)]) hx hb dX12_would_10 rfl hl (by decide) rfl (fun ls hl => ?_)
    refine lv_iload_n hx hb dX12_would_11 rfl (lv_at hl 0 rfl) ?_
    refine lv_if_ge (tgt := 17) hx hb dX12_would_12 (by decide) (fun c9_ => absurd c9_ (by decide)) (fun _ => ?_)
    refine lv_iload_n hx hb dX12_would_15 rfl (lv_at hl 0 rfl) ?_
    exact W.iret (v := (-4)) hx hb hr (fun t ht hW => ⟨⟨(-4), (), rfl, Or.inr (Or.inr (⟨c4_, c5_, rfl⟩)), trivial⟩, hS.F ht⟩) hS.2.2 dX12_would_16

theorem dX12_tries_0 : decode cX12_tries 0 = .ok (.aload_n 0, 1) := by decide +kernel
theorem dX12_tries_1 : decode cX12_tries 1 = .ok (.iconst 0, 1) := by decide +kernel
theorem dX12_tries_2 : decode cX12_tries 2 = .ok (.putfield 105, 3) := by decide +kernel
theorem dX12_tries_5 : decode cX12_tries 5 = .ok (.iload 5, 2) := by decide +kernel
theorem dX12_tries_7 : decode cX12_tries 7 = .ok (.i2l, 1) := by decide +kernel
theorem dX12_tries_8 : decode cX12_tries 8 = .ok (.lconst 0, 1) := by decide +kernel
theorem dX12_tries_9 : decode cX12_tries 9 = .ok (.ldc2_w 462, 3) := by decide +kernel
theorem dX12_tries_12 : decode cX12_tries 12 = .ok (.invokestatic 128, 3) := by decide +kernel
theorem dX12_tries_15 : decode cX12_tries 15 = .ok (.ifCond .ne 5, 3) := by decide +kernel
theorem dX12_tries_18 : decode cX12_tries 18 = .ok (.iconst (-1), 1) := by decide +kernel
theorem dX12_tries_19 : decode cX12_tries 19 = .ok (.ireturn, 1) := by decide +kernel
theorem dX12_tries_20 : decode cX12_tries 20 = .ok (.iload_n 2, 1) := by decide +kernel
theorem dX12_tries_21 : decode cX12_tries 21 = .ok (.invokestatic 416, 3) := by decide +kernel
theorem dX12_tries_24 : decode cX12_tries 24 = .ok (.ifCond .eq 18, 3) := by decide +kernel
theorem dX12_tries_27 : decode cX12_tries 27 = .ok (.iload_n 3, 1) := by decide +kernel
theorem dX12_tries_28 : decode cX12_tries 28 = .ok (.invokestatic 416, 3) := by decide +kernel
theorem dX12_tries_31 : decode cX12_tries 31 = .ok (.ifCond .eq 11, 3) := by decide +kernel
theorem dX12_tries_34 : decode cX12_tries 34 = .ok (.iload 4, 2) := by decide +kernel
theorem dX12_tries_36 : decode cX12_tries 36 = .ok (.invokestatic 416, 3) := by decide +kernel
theorem dX12_tries_39 : decode cX12_tries 39 = .ok (.ifCond .ne 7, 3) := by decide +kernel
theorem dX12_tries_42 : decode cX12_tries 42 = .ok (.iconst (-1), 1) := by decide +kernel
theorem dX12_tries_43 : decode cX12_tries 43 = .ok (.goto 34, 3) := by decide +kernel
theorem dX12_tries_46 : decode cX12_tries 46 = .ok (.aload_n 0, 1) := by decide +kernel
theorem dX12_tries_47 : decode cX12_tries 47 = .ok (.iload_n 1, 1) := by decide +kernel
theorem dX12_tries_48 : decode cX12_tries 48 = .ok (.iconst 3, 1) := by decide +kernel
theorem dX12_tries_49 : decode cX12_tries 49 = .ok (.invokevirtual 143, 3) := by decide +kernel
theorem dX12_tries_52 : decode cX12_tries 52 = .ok (.ifCond .ne 8, 3) := by decide +kernel
theorem dX12_tries_55 : decode cX12_tries 55 = .ok (.bipush (-2), 2) := by decide +kernel
theorem dX12_tries_57 : decode cX12_tries 57 = .ok (.goto 20, 3) := by decide +kernel
theorem dX12_tries_77 : decode cX12_tries 77 = .ok (.istore 6, 2) := by decide +kernel
theorem dX12_tries_79 : decode cX12_tries 79 = .ok (.iload 6, 2) := by decide +kernel
theorem dX12_tries_81 : decode cX12_tries 81 = .ok (.ifCond .ge 15, 3) := by decide +kernel
theorem dX12_tries_84 : decode cX12_tries 84 = .ok (.iload 5, 2) := by decide +kernel
theorem dX12_tries_86 : decode cX12_tries 86 = .ok (.ifCond .ne 8, 3) := by decide +kernel
theorem dX12_tries_89 : decode cX12_tries 89 = .ok (.iload 6, 2) := by decide +kernel
theorem dX12_tries_91 : decode cX12_tries 91 = .ok (.goto 4, 3) := by decide +kernel
theorem dX12_tries_94 : decode cX12_tries 94 = .ok (.iconst 0, 1) := by decide +kernel
theorem dX12_tries_95 : decode cX12_tries 95 = .ok (.ireturn, 1) := by decide +kernel
def v_X12_tries : List Cond := .code yX12_tries cX12_tries 9 (some .int) :: ([.fieldLink RX12 105 "RestBoardModel" "thrown" "I", .constantLong RX12 462 (4), .methodLink RX12 128 yX12_in, .static yX12_in, .initialized RX12, .code yX12_in cX12_in 6 (some .boolean), .methodLink RX12 416 yX12_isValue, .static yX12_isValue, .code yX12_isValue cX12_isValue 1 (some .boolean), .constant RX12 415 (65536), .methodLink RX12 143 yX12_isOf, .instanceMethod yX12_isOf, .selects RX12 yX12_isOf yX12_isOf, .code yX12_isOf cX12_isOf 3 (some .boolean), .methodLink RX12 132 yX12_isNode, .instanceMethod yX12_isNode, .selects RX12 yX12_isNode yX12_isNode, .code yX12_isNode cX12_isNode 2 (some .boolean), .fieldLink RX12 13 "RestBoardModel" "row" "[I", .methodLink RX12 136 yX12_kind, .instanceMethod yX12_kind, .selects RX12 yX12_kind yX12_kind, .code yX12_kind cX12_kind 2 (some .int), .methodLink RX12 125 yX12_at, .static yX12_at, .code yX12_at cX12_at 1 (some .int)] ++ wsX120)
theorem m_X12_tries_0 : (.fieldLink RX12 105 "RestBoardModel" "thrown" "I" : Cond) ∈ v_X12_tries := List.mem_of_getElem? (i := 1) (by decide +kernel)
theorem m_X12_tries_1 : (.constantLong RX12 462 (4) : Cond) ∈ v_X12_tries := List.mem_of_getElem? (i := 2) (by decide +kernel)
theorem i_X12_tries_X12 : ∀ w ∈ u_ws RX12 TX12 59, w ∈ v_X12_tries := fun w h => List.mem_cons_of_mem _ (List.mem_append_right _ h)
set_option maxRecDepth 100000 in
theorem gg_X12_tries_X12_in_128 : GoodIn v_X12_tries v_X12_in := goodIn_r _ [6] (by decide +kernel) (by decide +kernel)
set_option maxRecDepth 100000 in
theorem g_X12_tries_X12_in_128 : GoodIn v_X12_tries (va_wsS RX12 128 yX12_in v_X12_in) := goodIn_app (goodIn_r _ [3, 4, 5] (by decide +kernel) (by decide +kernel)) gg_X12_tries_X12_in_128
set_option maxRecDepth 100000 in
theorem gg_X12_tries_X12_isValue_416 : GoodIn v_X12_tries v_X12_isValue := goodIn_r _ [9, 10] (by decide +kernel) (by decide +kernel)
set_option maxRecDepth 100000 in
theorem g_X12_tries_X12_isValue_416 : GoodIn v_X12_tries (va_wsS RX12 416 yX12_isValue v_X12_isValue) := goodIn_app (goodIn_r _ [7, 8, 5] (by decide +kernel) (by decide +kernel)) gg_X12_tries_X12_isValue_416
set_option maxRecDepth 100000 in
theorem gg_X12_tries_X12_isOf_143 : GoodIn v_X12_tries v_X12_isOf := goodIn_r _ [14, 15, 16, 17, 5, 18, 19, 3, 4, 6, 20, 21, 22, 23, 24, 25, 26, 27, 28, 29, 30, 31, 32, 33, 34, 35, 36, 37, 38, 39, 40, 41, 42, 43, 44, 45, 46, 47, 48, 49, 50, 51, 52, 53, 54, 55, 56, 57, 58, 59, 60, 61, 62, 63, 64, 65, 66, 67, 68, 69, 70, 71, 72, 73, 74, 75, 76, 77, 78, 79, 80, 81, 82, 83, 84, 85] (by decide +kernel) (by decide +kernel)
set_option maxRecDepth 100000 in
theorem g_X12_tries_X12_isOf_143 : GoodIn v_X12_tries (wsV RX12 143 RX12 yX12_isOf v_X12_isOf) := goodIn_app (goodIn_r _ [11, 12, 13, 5] (by decide +kernel) (by decide +kernel)) gg_X12_tries_X12_isOf_143
set_option maxHeartbeats 4000000 in
set_option maxRecDepth 100000 in
theorem c_X12_tries (l : Launch) (dC : Nat → ClassId) (dI : Nat → Nat → Nat) (cy : Nat → ClassId) (b : Nat → Nat) (sz : Nat) (p0 p1 p2 p3 p4 : Int32) : Met l yX12_tries v_X12_tries ({ frames := 3, cells := 0, slots := 0, locals := 68 }) (va_Pc [.ref (b 0), .int p0, .int p1, .int p2, .int p3, .int p4] (ps dC dI cy (mw b cy) sz)) (va_Qi (fun (r : Int32) (_ : Unit) => ((p4 < 0) ∧ r = (-1)) ∨ ((¬ p4 < 0) ∧ ((4 : Int32) < p4) ∧ r = (-1)) ∨ ((¬ p4 < 0) ∧ (¬ (4 : Int32) < p4) ∧ (p1 < 0) ∧ (¬ p4 = 0) ∧ r = 0) ∨ ((p1 < 0) ∧ (p4 = 0) ∧ r = (-1)) ∨ ((¬ p4 < 0) ∧ (¬ (4 : Int32) < p4) ∧ (¬ p1 < 0) ∧ ((65536 : Int32) ≤ p1) ∧ (¬ p4 = 0) ∧ r = 0) ∨ ((¬ p1 < 0) ∧ ((65536 : Int32) ≤ p1) ∧ (p4 = 0) ∧ r = (-1)) ∨ ((¬ p4 < 0) ∧ (¬ (4 : Int32) < p4) ∧ (¬ p1 < 0) ∧ (¬ (65536 : Int32) ≤ p1) ∧ (p2 < 0) ∧ (¬ p4 = 0) ∧ r = 0) ∨ ((¬ p1 < 0) ∧ (¬ (65536 : Int32) ≤ p1) ∧ (p2 < 0) ∧ (p4 = 0) ∧ r = (-1)) ∨ ((¬ p4 < 0) ∧ (¬ (4 : Int32) < p4) ∧ (¬ p1 < 0) ∧ (¬ (65536 : Int32) ≤ p1) ∧ (¬ p2 < 0) ∧ ((65536 : Int32) ≤ p2) ∧ (¬ p4 = 0) ∧ r = 0) ∨ ((¬ p1 < 0) ∧ (¬ (65536 : Int32) ≤ p1) ∧ (¬ p2 < 0) ∧ ((65536 : Int32) ≤ p2) ∧ (p4 = 0) ∧ r = (-1)) ∨ ((¬ p4 < 0) ∧ (¬ (4 : Int32) < p4) ∧ (¬ p1 < 0) ∧ (¬ (65536 : Int32) ≤ p1) ∧ (¬ p2 < 0) ∧ (¬ (65536 : Int32) ≤ p2) ∧ (p3 < 0) ∧ (¬ p4 = 0) ∧ r = 0) ∨ ((¬ p1 < 0) ∧ (¬ (65536 : Int32) ≤ p1) ∧ (¬ p2 < 0) ∧ (¬ (65536 : Int32) ≤ p2) ∧ (p3 < 0) ∧ (p4 = 0) ∧ r = (-1)) ∨ ((¬ p4 < 0) ∧ (¬ (4 : Int32) < p4) ∧ (¬ p1 < 0) ∧ (¬ (65536 : Int32) ≤ p1) ∧ (¬ p2 < 0) ∧ (¬ (65536 : Int32) ≤ p2) ∧ (¬ p3 < 0) ∧ ((65536 : Int32) ≤ p3) ∧ (¬ p4 = 0) ∧ r = 0) ∨ ((¬ p1 < 0) ∧ (¬ (65536 : Int32) ≤ p1) ∧ (¬ p2 < 0) ∧ (¬ (65536 : Int32) ≤ p2) ∧ (¬ p3 < 0) ∧ ((65536 : Int32) ≤ p3) ∧ (p4 = 0) ∧ r = (-1)) ∨ ((¬ p4 < 0) ∧ (¬ (4 : Int32) < p4) ∧ (¬ p1 < 0) ∧ (¬ (65536 : Int32) ≤ p1) ∧ (¬ p2 < 0) ∧ (¬ (65536 : Int32) ≤ p2) ∧ (¬ p3 < 0) ∧ (¬ (65536 : Int32) ≤ p3) ∧ (p0 < 0) ∧ (¬ p4 = 0) ∧ r = 0) ∨ ((¬ p1 < 0) ∧ (¬ (65536 : Int32) ≤ p1) ∧ (¬ p2 < 0) ∧ (¬ (65536 : Int32) ≤ p2) ∧ (¬ p3 < 0) ∧ (¬ (65536 : Int32) ≤ p3) ∧ (p0 < 0) ∧ (p4 = 0) ∧ r = (-2)) ∨ ((¬ p4 < 0) ∧ (¬ (4 : Int32) < p4) ∧ (¬ p1 < 0) ∧ (¬ (65536 : Int32) ≤ p1) ∧ (¬ p2 < 0) ∧ (¬ (65536 : Int32) ≤ p2) ∧ (¬ p3 < 0) ∧ (¬ (65536 : Int32) ≤ p3) ∧ (¬ p0 < 0) ∧ ((0 : Int32) < p0) ∧ (¬ p4 = 0) ∧ r = 0) ∨ ((¬ p1 < 0) ∧ (¬ (65536 : Int32) ≤ p1) ∧ (¬ p2 < 0) ∧ (¬ (65536 : Int32) ≤ p2) ∧ (¬ p3 < 0) ∧ (¬ (65536 : Int32) ≤ p3) ∧ (¬ p0 < 0) ∧ ((0 : Int32) < p0) ∧ (p4 = 0) ∧ r = (-2)) ∨ ((¬ p4 < 0) ∧ (¬ (4 : Int32) < p4) ∧ (¬ p1 < 0) ∧ (¬ (65536 : Int32) ≤ p1) ∧ (¬ p2 < 0) ∧ (¬ (65536 : Int32) ≤ p2) ∧ (¬ p3 < 0) ∧ (¬ (65536 : Int32) ≤ p3) ∧ (p0 = 0) ∧ (¬ p4 = 0) ∧ r = 0) ∨ ((¬ p1 < 0) ∧ (¬ (65536 : Int32) ≤ p1) ∧ (¬ p2 < 0) ∧ (¬ (65536 : Int32) ≤ p2) ∧ (¬ p3 < 0) ∧ (¬ (65536 : Int32) ≤ p3) ∧ (p0 = 0) ∧ (p4 = 0) ∧ r = (-2))) (fun _ _ => True) (va_A (mw b cy) sz)) 0 0 (va_A (mw b cy) sz) := by
  refine Met.ofW (cc := cX12_tries) (maxL := 9) (ret := (some .int)) (by decide) rfl ?_
  intro p e s m args below meth c s₁ B hml hv
  obtain ⟨rfl, hsz, hP, hC, hD0⟩ := hv
  have hK := hC.1
  have hx := B.exec
  have hb := B.bytes
  have hr := B.returns
  have hts := atoms_spec (ws := v_X12_tries) B.pre
  have hown : s.vm.findClass RX12 = some m.cls := findClass_of_methodNamed B.named
  have hlocks := B.notSynchronized
  subst hsz
  have hD := hD0.self (sz := s.heap.size)
  generalize hAe : va_A (mw b cy) s.heap.size = A at hD ⊢
  have hA : ∀ q : Nat, s.heap.size ≤ q → A q := fun q h => by rw [← hAe]; exact Or.inr h
  have hS : va_S A s.heap s.heap [] := va_S.rf
  have hl := lv_entry ([.ref (b 0), .int p0, .int p1, .int p2, .int p3, .int p4]) (n := 9) (Nat.le_of_ble_eq_true rfl)
  rw [lg_entry_eq]
  generalize (lg_sl ([.ref (b 0), .int p0, .int p1, .int p2, .int p3, .int p4]) ++ List.replicate (9 - (lg_sl ([.ref (b 0), .int p0, .int p1, .int p2, .int p3, .int p4])).length) Slot.unset).toArray = ls at hl ⊢
  have hl : lv_has ls 9 [(0, .ref (b 0)), (1, .int p0), (2, .int p1), (3, .int p2), (4, .int p3), (5, .int p4)] := hl
  refine lv_aload_n hx hb dX12_tries_0 rfl (lv_at hl 0 rfl) ?_
  refine lv_iconst (v := 0) hx hb dX12_tries_1 (by decide) ?_
  refine va_put (D := (dC, dI)) (ci := 12) (v := .int 0) (ty := .int) (C := RX12) (T := TX12) (N := 59) hx hb hts i_X12_tries_X12 tyX12 tyX12_ok nmX12 hown hK hP hD hS 0 rfl rfl 0 (by decide) (hts _ m_X12_tries_0) (fun _ h9 => h9) rfl (by decide +kernel) rfl rfl (Nat.le_of_ble_eq_true rfl) dX12_tries_2 (fun H locs hP hD hS => ?_)
  have hP : va_P (dC, dI) vwCl (mw b cy) H := hP
  have hD : va_D A (mw b cy) := hD
  refine lv_iload hx hb dX12_tries_5 (lv_at hl 5 rfl) ?_
  refine lv_i2l (v := Int32.toInt64 p4) hx hb dX12_tries_7 rfl ?_
  refine lv_lconst (v := 0) hx hb dX12_tries_8 (by decide) ?_
  refine tk_l (Int32.toInt64 0) (by decide) ?_
  refine lv_ldc2 (v := 4) hx hb hown (hts _ m_X12_tries_1) dX12_tries_9 ?_
  refine tk_l (Int32.toInt64 4) (by decide) ?_
  refine tk_pi (va_runS (As := [.long (Int32.toInt64 p4), .long (Int32.toInt64 0), .long (Int32.toInt64 4)]) (rest := []) ⟨hx, hb, hml, hown, hts⟩ (c_X12_in l dC dI cy  p4 0 4) (va_cwS 3 hts g_X12_tries_X12_in_128 rfl rfl rfl (by decide +kernel) ⟨Nat.le_of_ble_eq_true rfl, Nat.le_of_ble_eq_true rfl⟩) (pS_pp hC va_P0) rfl rfl hl.1 rfl (lv_room (Nat.le_of_ble_eq_true rfl)) dX12_tries_12 ⟨Nat.le_of_ble_eq_true rfl, Nat.le_of_ble_eq_true rfl⟩) hP hS (fun r_ H locs hw hP hS => ?_)
  rcases hw with ⟨c1_, rfl⟩ | ⟨c2_, c3_, rfl⟩ | ⟨c4_, c5_, rfl⟩
  · skip
    refine lv_if_ne (tgt := 20) hx hb dX12_tries_15 (by decide) (fun c9_ => absurd (by decide) c9_) (fun _ => ?_)
    refine lv_iconst (v := (-1)) hx hb dX12_tries_18 (by decide) ?_
    exact W.iret (v := (-1)) hx hb hr (fun t ht hW => ⟨⟨(-1), (), rfl, Or.inl (⟨c1_, rfl⟩), trivial⟩, hS.F ht⟩) hS.2.2 dX12_tries_19
  · skip
    refine lv_if_ne (tgt := 20) hx hb dX12_tries_15 (by decide) (fun c9_ => absurd (by decide) c9_) (fun _ => ?_)
    refine lv_iconst (v := (-1)) hx hb dX12_tries_18 (by decide) ?_
    exact W.iret (v := (-1)) hx hb hr (fun t ht hW => ⟨⟨(-1), (), rfl, Or.inr (Or.inl (⟨c2_, c3_, rfl⟩)), trivial⟩, hS.F ht⟩) hS.2.2 dX12_tries_19
  · skip
    refine lv_if_ne (tgt := 20) hx hb dX12_tries_15 (by decide) (fun _ => ?_) (fun c9_ => absurd c9_ (by decide))
    refine lv_iload_n hx hb dX12_tries_20 rfl (lv_at hl 2 rfl) ?_
    refine tk_pi (va_runS (As := [.int p1]) (rest := []) ⟨hx, hb, hml, hown, hts⟩ (c_X12_isValue l dC dI cy  p1) (va_cwS 1 hts g_X12_tries_X12_isValue_416 rfl rfl rfl (by decide +kernel) ⟨Nat.le_of_ble_eq_true rfl, Nat.le_of_ble_eq_true rfl⟩) (pS_pp hC va_P0) rfl rfl hl.1 rfl (lv_room (Nat.le_of_ble_eq_true rfl)) dX12_tries_21 ⟨Nat.le_of_ble_eq_true rfl, Nat.le_of_ble_eq_true rfl⟩) hP hS (fun r_ H locs hw hP hS => ?_)
    rcases hw with ⟨c6_, rfl⟩ | ⟨c7_, c8_, rfl⟩ | ⟨c9_, c10_, rfl⟩
    · skip
      refine lv_if_eq (tgt := 42) hx hb dX12_tries_24 (by decide) (fun _ => ?_) (fun c9_ => absurd (by decide) c9_)
      refine lv_iconst (v := (-1)) hx hb dX12_tries_42 (by decide) ?_
      refine lv_goto (tgt := 77) hx hb dX12_tries_43 (by decide) ?_
      refine lv_istore (lv' := [(6, .int (-1)), (0, .ref (b 0)), (1, .int p0), (2, .int p1), (3, .int p2), (4, .int p3), (5, .int p4)]) hx hb dX12_tries_77 hl (by decide) rfl (fun ls hl => ?_)
      refine lv_iload hx hb dX12_tries_79 (lv_at hl 0 rfl) ?_
      refine lv_if_ge (tgt := 96) hx hb dX12_tries_81 (by decide) (fun c9_ => absurd c9_ (by decide)) (fun _ => ?_)
      refine lv_iload hx hb dX12_tries_84 (lv_at hl 6 rfl) ?_
      refine lv_if_ne (tgt := 94) hx hb dX12_tries_86 (by decide) (fun c11_ => ?_) (fun c11_ => ?_)
      · skip
        refine lv_iconst (v := 0) hx hb dX12_tries_94 (by decide) ?_
        exact W.iret (v := 0) hx hb hr (fun t ht hW => ⟨⟨0, (), rfl, Or.inr (Or.inr (Or.inl (⟨c4_, c5_, c6_, c11_, rfl⟩))), trivial⟩, hS.F ht⟩) hS.2.2 dX12_tries_95
      · skip
        subst c11_
        refine lv_iload hx hb dX12_tries_89 (lv_at hl 0 rfl) ?_
        refine lv_goto (tgt := 95) hx hb dX12_tries_91 (by decide) ?_
        exact W.iret (v := (-1)) hx hb hr (fun t ht hW => ⟨⟨(-1), (), rfl, Or.inr (Or.inr (Or.inr (Or.inl (⟨c6_, rfl, rfl⟩)))), trivial⟩, hS.F ht⟩) hS.2.2 dX12_tries_95
    · skip
      refine lv_if_eq (tgt := 42) hx hb dX12_tries_24 (by decide) (fun _ => ?_) (fun c9_ => absurd (by decide) c9_)
      refine lv_iconst (v := (-1)) hx hb dX12_tries_42 (by decide) ?_
      refine lv_goto (tgt := 77) hx hb dX12_tries_43 (by decide) ?_
      refine lv_istore (lv' := [(6, .int (-1)), (0, .ref (b 0)), (1, .int p0), (2, .int p1), (3, .int p2), (4, .int p3), (5, .int p4)]) hx hb dX12_tries_77 hl (by decide) rfl (fun ls hl => ?_)
      refine lv_iload hx hb dX12_tries_79 (lv_at hl 0 rfl) ?_
      refine lv_if_ge (tgt := 96) hx hb dX12_tries_81 (by decide) (fun c9_ => absurd c9_ (by decide)) (fun _ => ?_)
      refine lv_iload hx hb dX12_tries_84 (lv_at hl 6 rfl) ?_
      refine lv_if_ne (tgt := 94) hx hb dX12_tries_86 (by decide) (fun c12_ => ?_) (fun c12_ => ?_)
      · skip
        refine lv_iconst (v := 0) hx hb dX12_tries_94 (by decide) ?_
        exact W.iret (v := 0) hx hb hr (fun t ht hW => ⟨⟨0, (), rfl, Or.inr (Or.inr (Or.inr (Or.inr (Or.inl (⟨c4_, c5_, c7_, c8_, c12_, rfl⟩))))), trivial⟩, hS.F ht⟩) hS.2.2 dX12_tries_95
      · skip
        subst c12_
        refine lv_iload hx hb dX12_tries_89 (lv_at hl 0 rfl) ?_
        refine lv_goto (tgt := 95) hx hb dX12_tries_91 (by decide) ?_
        exact W.iret (v := (-1)) hx hb hr (fun t ht hW => ⟨⟨(-1), (), rfl, Or.inr (Or.inr (Or.inr (Or.inr (Or.inr (Or.inl (⟨c7_, c8_, rfl, rfl⟩)))))), trivial⟩, hS.F ht⟩) hS.2.2 dX12_tries_95
    · skip
      refine lv_if_eq (tgt := 42) hx hb dX12_tries_24 (by decide) (fun c9_ => absurd c9_ (by decide)) (fun _ => ?_)
      refine lv_iload_n hx hb dX12_tries_27 rfl (lv_at hl 3 rfl) ?_
      refine tk_pi (va_runS (As := [.int p2]) (rest := []) ⟨hx, hb, hml, hown, hts⟩ (c_X12_isValue l dC dI cy  p2) (va_cwS 1 hts g_X12_tries_X12_isValue_416 rfl rfl rfl (by decide +kernel) ⟨Nat.le_of_ble_eq_true rfl, Nat.le_of_ble_eq_true rfl⟩) (pS_pp hC va_P0) rfl rfl hl.1 rfl (lv_room (Nat.le_of_ble_eq_true rfl)) dX12_tries_28 ⟨Nat.le_of_ble_eq_true rfl, Nat.le_of_ble_eq_true rfl⟩) hP hS (fun r_ H locs hw hP hS => ?_)
      rcases hw with ⟨c13_, rfl⟩ | ⟨c14_, c15_, rfl⟩ | ⟨c16_, c17_, rfl⟩
      · skip
        refine lv_if_eq (tgt := 42) hx hb dX12_tries_31 (by decide) (fun _ => ?_) (fun c9_ => absurd (by decide) c9_)
        refine lv_iconst (v := (-1)) hx hb dX12_tries_42 (by decide) ?_
        refine lv_goto (tgt := 77) hx hb dX12_tries_43 (by decide) ?_
        refine lv_istore (lv' := [(6, .int (-1)), (0, .ref (b 0)), (1, .int p0), (2, .int p1), (3, .int p2), (4, .int p3), (5, .int p4)]) hx hb dX12_tries_77 hl (by decide) rfl (fun ls hl => ?_)
        refine lv_iload hx hb dX12_tries_79 (lv_at hl 0 rfl) ?_
        refine lv_if_ge (tgt := 96) hx hb dX12_tries_81 (by decide) (fun c9_ => absurd c9_ (by decide)) (fun _ => ?_)
        refine lv_iload hx hb dX12_tries_84 (lv_at hl 6 rfl) ?_
        refine lv_if_ne (tgt := 94) hx hb dX12_tries_86 (by decide) (fun c18_ => ?_) (fun c18_ => ?_)
        · skip
          refine lv_iconst (v := 0) hx hb dX12_tries_94 (by decide) ?_
          exact W.iret (v := 0) hx hb hr (fun t ht hW => ⟨⟨0, (), rfl, Or.inr (Or.inr (Or.inr (Or.inr (Or.inr (Or.inr (Or.inl (⟨c4_, c5_, c9_, c10_, c13_, c18_, rfl⟩))))))), trivial⟩, hS.F ht⟩) hS.2.2 dX12_tries_95
        · skip
          subst c18_
          refine lv_iload hx hb dX12_tries_89 (lv_at hl 0 rfl) ?_
          refine lv_goto (tgt := 95) hx hb dX12_tries_91 (by decide) ?_
          exact W.iret (v := (-1)) hx hb hr (fun t ht hW => ⟨⟨(-1), (), rfl, Or.inr (Or.inr (Or.inr (Or.inr (Or.inr (Or.inr (Or.inr (Or.inl (⟨c9_, c10_, c13_, rfl, rfl⟩)))))))), trivial⟩, hS.F ht⟩) hS.2.2 dX12_tries_95
      · skip
        refine lv_if_eq (tgt := 42) hx hb dX12_tries_31 (by decide) (fun _ => ?_) (fun c9_ => absurd (by decide) c9_)
        refine lv_iconst (v := (-1)) hx hb dX12_tries_42 (by decide) ?_
        refine lv_goto (tgt := 77) hx hb dX12_tries_43 (by decide) ?_
        refine lv_istore (lv' := [(6, .int (-1)), (0, .ref (b 0)), (1, .int p0), (2, .int p1), (3, .int p2), (4, .int p3), (5, .int p4)]) hx hb dX12_tries_77 hl (by decide) rfl (fun ls hl => ?_)
        refine lv_iload hx hb dX12_tries_79 (lv_at hl 0 rfl) ?_
        refine lv_if_ge (tgt := 96) hx hb dX12_tries_81 (by decide) (fun c9_ => absurd c9_ (by decide)) (fun _ => ?_)
        refine lv_iload hx hb dX12_tries_84 (lv_at hl 6 rfl) ?_
        refine lv_if_ne (tgt := 94) hx hb dX12_tries_86 (by decide) (fun c19_ => ?_) (fun c19_ => ?_)
        · skip
          refine lv_iconst (v := 0) hx hb dX12_tries_94 (by decide) ?_
          exact W.iret (v := 0) hx hb hr (fun t ht hW => ⟨⟨0, (), rfl, Or.inr (Or.inr (Or.inr (Or.inr (Or.inr (Or.inr (Or.inr (Or.inr (Or.inl (⟨c4_, c5_, c9_, c10_, c14_, c15_, c19_, rfl⟩))))))))), trivial⟩, hS.F ht⟩) hS.2.2 dX12_tries_95
        · skip
          subst c19_
          refine lv_iload hx hb dX12_tries_89 (lv_at hl 0 rfl) ?_
          refine lv_goto (tgt := 95) hx hb dX12_tries_91 (by decide) ?_
          exact W.iret (v := (-1)) hx hb hr (fun t ht hW => ⟨⟨(-1), (), rfl, Or.inr (Or.inr (Or.inr (Or.inr (Or.inr (Or.inr (Or.inr (Or.inr (Or.inr (Or.inl (⟨c9_, c10_, c14_, c15_, rfl, rfl⟩)))))))))), trivial⟩, hS.F ht⟩) hS.2.2 dX12_tries_95
      · skip
        refine lv_if_eq (tgt := 42) hx hb dX12_tries_31 (by decide) (fun c9_ => absurd c9_ (by decide)) (fun _ => ?_)
        refine lv_iload hx hb dX12_tries_34 (lv_at hl 4 rfl) ?_
        refine tk_pi (va_runS (As := [.int p3]) (rest := []) ⟨hx, hb, hml, hown, hts⟩ (c_X12_isValue l dC dI cy  p3) (va_cwS 1 hts g_X12_tries_X12_isValue_416 rfl rfl rfl (by decide +kernel) ⟨Nat.le_of_ble_eq_true rfl, Nat.le_of_ble_eq_true rfl⟩) (pS_pp hC va_P0) rfl rfl hl.1 rfl (lv_room (Nat.le_of_ble_eq_true rfl)) dX12_tries_36 ⟨Nat.le_of_ble_eq_true rfl, Nat.le_of_ble_eq_true rfl⟩) hP hS (fun r_ H locs hw hP hS => ?_)
        rcases hw with ⟨c20_, rfl⟩ | ⟨c21_, c22_, rfl⟩ | ⟨c23_, c24_, rfl⟩
        · skip
          refine lv_if_ne (tgt := 46) hx hb dX12_tries_39 (by decide) (fun c9_ => absurd (by decide) c9_) (fun _ => ?_)
          refine lv_iconst (v := (-1)) hx hb dX12_tries_42 (by decide) ?_
          refine lv_goto (tgt := 77) hx hb dX12_tries_43 (by decide) ?_
          refine lv_istore (lv' := [(6, .int (-1)), (0, .ref (b 0)), (1, .int p0), (2, .int p1), (3, .int p2), (4, .int p3), (5, .int p4)]) hx hb dX12_tries_77 hl (by decide) rfl (fun ls hl => ?_)
          refine lv_iload hx hb dX12_tries_79 (lv_at hl 0 rfl) ?_
          refine lv_if_ge (tgt := 96) hx hb dX12_tries_81 (by decide) (fun c9_ => absurd c9_ (by decide)) (fun _ => ?_)
          refine lv_iload hx hb dX12_tries_84 (lv_at hl 6 rfl) ?_
          refine lv_if_ne (tgt := 94) hx hb dX12_tries_86 (by decide) (fun c25_ => ?_) (fun c25_ => ?_)
          · skip
            refine lv_iconst (v := 0) hx hb dX12_tries_94 (by decide) ?_
            exact W.iret (v := 0) hx hb hr (fun t ht hW => ⟨⟨0, (), rfl, Or.inr (Or.inr (Or.inr (Or.inr (Or.inr (Or.inr (Or.inr (Or.inr (Or.inr (Or.inr (Or.inl (⟨c4_, c5_, c9_, c10_, c16_, c17_, c20_, c25_, rfl⟩))))))))))), trivial⟩, hS.F ht⟩) hS.2.2 dX12_tries_95
          · skip
            subst c25_
            refine lv_iload hx hb dX12_tries_89 (lv_at hl 0 rfl) ?_
            refine lv_goto (tgt := 95) hx hb dX12_tries_91 (by decide) ?_
            exact W.iret (v := (-1)) hx hb hr (fun t ht hW => ⟨⟨(-1), (), rfl, Or.inr (Or.inr (Or.inr (Or.inr (Or.inr (Or.inr (Or.inr (Or.inr (Or.inr (Or.inr (Or.inr (Or.inl (⟨c9_, c10_, c16_, c17_, c20_, rfl, rfl⟩)))))))))))), trivial⟩, hS.F ht⟩) hS.2.2 dX12_tries_95
        · skip
          refine lv_if_ne (tgt := 46) hx hb dX12_tries_39 (by decide) (fun c9_ => absurd (by decide) c9_) (fun _ => ?_)
          refine lv_iconst (v := (-1)) hx hb dX12_tries_42 (by decide) ?_
          refine lv_goto (tgt := 77) hx hb dX12_tries_43 (by decide) ?_
          refine lv_istore (lv' := [(6, .int (-1)), (0, .ref (b 0)), (1, .int p0), (2, .int p1), (3, .int p2), (4, .int p3), (5, .int p4)]) hx hb dX12_tries_77 hl (by decide) rfl (fun ls hl => ?_)
          refine lv_iload hx hb dX12_tries_79 (lv_at hl 0 rfl) ?_
          refine lv_if_ge (tgt := 96) hx hb dX12_tries_81 (by decide) (fun c9_ => absurd c9_ (by decide)) (fun _ => ?_)
          refine lv_iload hx hb dX12_tries_84 (lv_at hl 6 rfl) ?_
          refine lv_if_ne (tgt := 94) hx hb dX12_tries_86 (by decide) (fun c26_ => ?_) (fun c26_ => ?_)
          · skip
            refine lv_iconst (v := 0) hx hb dX12_tries_94 (by decide) ?_
            exact W.iret (v := 0) hx hb hr (fun t ht hW => ⟨⟨0, (), rfl, Or.inr (Or.inr (Or.inr (Or.inr (Or.inr (Or.inr (Or.inr (Or.inr (Or.inr (Or.inr (Or.inr (Or.inr (Or.inl (⟨c4_, c5_, c9_, c10_, c16_, c17_, c21_, c22_, c26_, rfl⟩))))))))))))), trivial⟩, hS.F ht⟩) hS.2.2 dX12_tries_95
          · skip
            subst c26_
            refine lv_iload hx hb dX12_tries_89 (lv_at hl 0 rfl) ?_
            refine lv_goto (tgt := 95) hx hb dX12_tries_91 (by decide) ?_
            exact W.iret (v := (-1)) hx hb hr (fun t ht hW => ⟨⟨(-1), (), rfl, Or.inr (Or.inr (Or.inr (Or.inr (Or.inr (Or.inr (Or.inr (Or.inr (Or.inr (Or.inr (Or.inr (Or.inr (Or.inr (Or.inl (⟨c9_, c10_, c16_, c17_, c21_, c22_, rfl, rfl⟩)))))))))))))), trivial⟩, hS.F ht⟩) hS.2.2 dX12_tries_95
        · skip
          refine lv_if_ne (tgt := 46) hx hb dX12_tries_39 (by decide) (fun _ => ?_) (fun c9_ => absurd c9_ (by decide))
          refine lv_aload_n hx hb dX12_tries_46 rfl (lv_at hl 0 rfl) ?_
          refine lv_iload_n hx hb dX12_tries_47 rfl (lv_at hl 1 rfl) ?_
          refine lv_iconst (v := 3) hx hb dX12_tries_48 (by decide) ?_
          refine tk_pi (va_runV (As := [.int p0, .int 3]) (rest := []) ⟨hx, hb, hml, hown, hts⟩ (c_X12_isOf l dC dI cy b p0 3) (cwV 2 hts g_X12_tries_X12_isOf_143 rfl rfl rfl (by decide +kernel) ⟨Nat.le_of_ble_eq_true rfl, Nat.le_of_ble_eq_true rfl⟩) (pv_pp hC hP (ci := 12) (q0 := 0) rfl rfl) rfl rfl hl.1 rfl (lv_room (Nat.le_of_ble_eq_true rfl)) dX12_tries_49 ⟨Nat.le_of_ble_eq_true rfl, Nat.le_of_ble_eq_true rfl⟩) hP hS (fun r_ H locs hw hP hS => ?_)
          rcases hw with ⟨c27_, rfl⟩ | ⟨c28_, c29_, rfl⟩ | ⟨c30_, -, rfl⟩ | ⟨c32_, c33_, rfl⟩
          · skip
            refine lv_if_ne (tgt := 60) hx hb dX12_tries_52 (by decide) (fun c9_ => absurd (by decide) c9_) (fun _ => ?_)
            refine lv_bipush (v := (-2)) hx hb dX12_tries_55 (by decide) ?_
            refine lv_goto (tgt := 77) hx hb dX12_tries_57 (by decide) ?_
            refine lv_istore (lv' := [(6, .int (-2)), (0, .ref (b 0)), (1, .int p0), (2, .int p1), (3, .int p2), (4, .int p3), (5, .int p4)]) hx hb dX12_tries_77 hl (by decide) rfl (fun ls hl => ?_)
            refine lv_iload hx hb dX12_tries_79 (lv_at hl 0 rfl) ?_
            refine lv_if_ge (tgt := 96) hx hb dX12_tries_81 (by decide) (fun c9_ => absurd c9_ (by decide)) (fun _ => ?_)
            refine lv_iload hx hb dX12_tries_84 (lv_at hl 6 rfl) ?_
            refine lv_if_ne (tgt := 94) hx hb dX12_tries_86 (by decide) (fun c34_ => ?_) (fun c34_ => ?_)
            · skip
              refine lv_iconst (v := 0) hx hb dX12_tries_94 (by decide) ?_
              exact W.iret (v := 0) hx hb hr (fun t ht hW => ⟨⟨0, (), rfl, Or.inr (Or.inr (Or.inr (Or.inr (Or.inr (Or.inr (Or.inr (Or.inr (Or.inr (Or.inr (Or.inr (Or.inr (Or.inr (Or.inr (Or.inl (⟨c4_, c5_, c9_, c10_, c16_, c17_, c23_, c24_, c27_, c34_, rfl⟩))))))))))))))), trivial⟩, hS.F ht⟩) hS.2.2 dX12_tries_95
            · skip
              subst c34_
              refine lv_iload hx hb dX12_tries_89 (lv_at hl 0 rfl) ?_
              refine lv_goto (tgt := 95) hx hb dX12_tries_91 (by decide) ?_
              exact W.iret (v := (-2)) hx hb hr (fun t ht hW => ⟨⟨(-2), (), rfl, Or.inr (Or.inr (Or.inr (Or.inr (Or.inr (Or.inr (Or.inr (Or.inr (Or.inr (Or.inr (Or.inr (Or.inr (Or.inr (Or.inr (Or.inr (Or.inl (⟨c9_, c10_, c16_, c17_, c23_, c24_, c27_, rfl, rfl⟩)))))))))))))))), trivial⟩, hS.F ht⟩) hS.2.2 dX12_tries_95
          · skip
            refine lv_if_ne (tgt := 60) hx hb dX12_tries_52 (by decide) (fun c9_ => absurd (by decide) c9_) (fun _ => ?_)
            refine lv_bipush (v := (-2)) hx hb dX12_tries_55 (by decide) ?_
            refine lv_goto (tgt := 77) hx hb dX12_tries_57 (by decide) ?_
            refine lv_istore (lv' := [(6, .int (-2)), (0, .ref (b 0)), (1, .int p0), (2, .int p1), (3, .int p2), (4, .int p3), (5, .int p4)]) hx hb dX12_tries_77 hl (by decide) rfl (fun ls hl => ?_)
            refine lv_iload hx hb dX12_tries_79 (lv_at hl 0 rfl) ?_
            refine lv_if_ge (tgt := 96) hx hb dX12_tries_81 (by decide) (fun c9_ => absurd c9_ (by decide)) (fun _ => ?_)
            refine lv_iload hx hb dX12_tries_84 (lv_at hl 6 rfl) ?_
            refine lv_if_ne (tgt := 94) hx hb dX12_tries_86 (by decide) (fun c35_ => ?_) (fun c35_ => ?_)
            · skip
              refine lv_iconst (v := 0) hx hb dX12_tries_94 (by decide) ?_
              exact W.iret (v := 0) hx hb hr (fun t ht hW => ⟨⟨0, (), rfl, Or.inr (Or.inr (Or.inr (Or.inr (Or.inr (Or.inr (Or.inr (Or.inr (Or.inr (Or.inr (Or.inr (Or.inr (Or.inr (Or.inr (Or.inr (Or.inr (Or.inl (⟨c4_, c5_, c9_, c10_, c16_, c17_, c23_, c24_, c28_, c29_, c35_, rfl⟩))))))))))))))))), trivial⟩, hS.F ht⟩) hS.2.2 dX12_tries_95
            · skip
              subst c35_
              refine lv_iload hx hb dX12_tries_89 (lv_at hl 0 rfl) ?_
              refine lv_goto (tgt := 95) hx hb dX12_tries_91 (by decide) ?_
              exact W.iret (v := (-2)) hx hb hr (fun t ht hW => ⟨⟨(-2), (), rfl, Or.inr (Or.inr (Or.inr (Or.inr (Or.inr (Or.inr (Or.inr (Or.inr (Or.inr (Or.inr (Or.inr (Or.inr (Or.inr (Or.inr (Or.inr (Or.inr (Or.inr (Or.inl (⟨c9_, c10_, c16_, c17_, c23_, c24_, c28_, c29_, rfl, rfl⟩)))))))))))))))))), trivial⟩, hS.F ht⟩) hS.2.2 dX12_tries_95
          · skip
            subst c30_
            refine lv_if_ne (tgt := 60) hx hb dX12_tries_52 (by decide) (fun c9_ => absurd (by decide) c9_) (fun _ => ?_)
            refine lv_bipush (v := (-2)) hx hb dX12_tries_55 (by decide) ?_
            refine lv_goto (tgt := 77) hx hb dX12_tries_57 (by decide) ?_
            refine lv_istore (lv' := [(6, .int (-2)), (0, .ref (b 0)), (1, .int 0), (2, .int p1), (3, .int p2), (4, .int p3), (5, .int p4)]) hx hb dX12_tries_77 hl (by decide) rfl (fun ls hl => ?_)
            refine lv_iload hx hb dX12_tries_79 (lv_at hl 0 rfl) ?_
            refine lv_if_ge (tgt := 96) hx hb dX12_tries_81 (by decide) (fun c9_ => absurd c9_ (by decide)) (fun _ => ?_)
            refine lv_iload hx hb dX12_tries_84 (lv_at hl 6 rfl) ?_
            refine lv_if_ne (tgt := 94) hx hb dX12_tries_86 (by decide) (fun c36_ => ?_) (fun c36_ => ?_)
            · skip
              refine lv_iconst (v := 0) hx hb dX12_tries_94 (by decide) ?_
              exact W.iret (v := 0) hx hb hr (fun t ht hW => ⟨⟨0, (), rfl, Or.inr (Or.inr (Or.inr (Or.inr (Or.inr (Or.inr (Or.inr (Or.inr (Or.inr (Or.inr (Or.inr (Or.inr (Or.inr (Or.inr (Or.inr (Or.inr (Or.inr (Or.inr (Or.inl (⟨c4_, c5_, c9_, c10_, c16_, c17_, c23_, c24_, rfl, c36_, rfl⟩))))))))))))))))))), trivial⟩, hS.F ht⟩) hS.2.2 dX12_tries_95
            · skip
              subst c36_
              refine lv_iload hx hb dX12_tries_89 (lv_at hl 0 rfl) ?_
              refine lv_goto (tgt := 95) hx hb dX12_tries_91 (by decide) ?_
              exact W.iret (v := (-2)) hx hb hr (fun t ht hW => ⟨⟨(-2), (), rfl, Or.inr (Or.inr (Or.inr (Or.inr (Or.inr (Or.inr (Or.inr (Or.inr (Or.inr (Or.inr (Or.inr (Or.inr (Or.inr (Or.inr (Or.inr (Or.inr (Or.inr (Or.inr (Or.inr (⟨c9_, c10_, c16_, c17_, c23_, c24_, rfl, rfl, rfl⟩))))))))))))))))))), trivial⟩, hS.F ht⟩) hS.2.2 dX12_tries_95
          · skip
            exact absurd c33_ (by decide)

theorem dX12_error_0 : decode cX12_error 0 = .ok (.aload_n 0, 1) := by decide +kernel
theorem dX12_error_1 : decode cX12_error 1 = .ok (.iconst 0, 1) := by decide +kernel
theorem dX12_error_2 : decode cX12_error 2 = .ok (.putfield 105, 3) := by decide +kernel
theorem dX12_error_5 : decode cX12_error 5 = .ok (.iload_n 1, 1) := by decide +kernel
theorem dX12_error_6 : decode cX12_error 6 = .ok (.tableswitch 41 0 2 #[26, 31, 36], 26) := by decide +kernel
theorem dX12_error_32 : decode cX12_error 32 = .ok (.aload_n 0, 1) := by decide +kernel
theorem dX12_error_33 : decode cX12_error 33 = .ok (.getfield 400, 3) := by decide +kernel
theorem dX12_error_36 : decode cX12_error 36 = .ok (.ireturn, 1) := by decide +kernel
theorem dX12_error_37 : decode cX12_error 37 = .ok (.aload_n 0, 1) := by decide +kernel
theorem dX12_error_38 : decode cX12_error 38 = .ok (.getfield 403, 3) := by decide +kernel
theorem dX12_error_41 : decode cX12_error 41 = .ok (.ireturn, 1) := by decide +kernel
theorem dX12_error_42 : decode cX12_error 42 = .ok (.aload_n 0, 1) := by decide +kernel
theorem dX12_error_43 : decode cX12_error 43 = .ok (.getfield 406, 3) := by decide +kernel
theorem dX12_error_46 : decode cX12_error 46 = .ok (.ireturn, 1) := by decide +kernel
theorem dX12_error_47 : decode cX12_error 47 = .ok (.iload_n 1, 1) := by decide +kernel
theorem dX12_error_48 : decode cX12_error 48 = .ok (.i2l, 1) := by decide +kernel
theorem dX12_error_49 : decode cX12_error 49 = .ok (.ldc2_w 517, 3) := by decide +kernel
theorem dX12_error_52 : decode cX12_error 52 = .ok (.ldc2_w 519, 3) := by decide +kernel
theorem dX12_error_55 : decode cX12_error 55 = .ok (.iconst 2, 1) := by decide +kernel
theorem dX12_error_56 : decode cX12_error 56 = .ok (.aload_n 0, 1) := by decide +kernel
theorem dX12_error_57 : decode cX12_error 57 = .ok (.getfield 406, 3) := by decide +kernel
theorem dX12_error_60 : decode cX12_error 60 = .ok (.imul, 1) := by decide +kernel
theorem dX12_error_61 : decode cX12_error 61 = .ok (.i2l, 1) := by decide +kernel
theorem dX12_error_62 : decode cX12_error 62 = .ok (.ladd, 1) := by decide +kernel
theorem dX12_error_63 : decode cX12_error 63 = .ok (.invokestatic 128, 3) := by decide +kernel
theorem dX12_error_66 : decode cX12_error 66 = .ok (.ifCond .eq 15, 3) := by decide +kernel
theorem dX12_error_81 : decode cX12_error 81 = .ok (.iconst (-1), 1) := by decide +kernel
theorem dX12_error_82 : decode cX12_error 82 = .ok (.ireturn, 1) := by decide +kernel
def v_X12_error : List Cond := .code yX12_error cX12_error 2 (some .int) :: ([.fieldLink RX12 105 "RestBoardModel" "thrown" "I", .fieldLink RX12 400 "RestBoardModel" "latestError" "I", .fieldLink RX12 403 "RestBoardModel" "latestReason" "I", .fieldLink RX12 406 "RestBoardModel" "latestMany" "I", .constantLong RX12 517 (10), .constantLong RX12 519 (9), .methodLink RX12 128 yX12_in, .static yX12_in, .initialized RX12, .code yX12_in cX12_in 6 (some .boolean)] ++ wsX120)
theorem m_X12_error_0 : (.fieldLink RX12 105 "RestBoardModel" "thrown" "I" : Cond) ∈ v_X12_error := List.mem_of_getElem? (i := 1) (by decide +kernel)
theorem m_X12_error_1 : (.fieldLink RX12 400 "RestBoardModel" "latestError" "I" : Cond) ∈ v_X12_error := List.mem_of_getElem? (i := 2) (by decide +kernel)
theorem m_X12_error_2 : (.fieldLink RX12 403 "RestBoardModel" "latestReason" "I" : Cond) ∈ v_X12_error := List.mem_of_getElem? (i := 3) (by decide +kernel)
theorem m_X12_error_3 : (.fieldLink RX12 406 "RestBoardModel" "latestMany" "I" : Cond) ∈ v_X12_error := List.mem_of_getElem? (i := 4) (by decide +kernel)
theorem m_X12_error_4 : (.constantLong RX12 517 (10) : Cond) ∈ v_X12_error := List.mem_of_getElem? (i := 5) (by decide +kernel)
theorem m_X12_error_5 : (.constantLong RX12 519 (9) : Cond) ∈ v_X12_error := List.mem_of_getElem? (i := 6) (by decide +kernel)
theorem i_X12_error_X12 : ∀ w ∈ u_ws RX12 TX12 59, w ∈ v_X12_error := fun w h => List.mem_cons_of_mem _ (List.mem_append_right _ h)
set_option maxRecDepth 100000 in
theorem gg_X12_error_X12_in_128 : GoodIn v_X12_error v_X12_in := goodIn_r _ [10] (by decide +kernel) (by decide +kernel)
set_option maxRecDepth 100000 in
theorem g_X12_error_X12_in_128 : GoodIn v_X12_error (va_wsS RX12 128 yX12_in v_X12_in) := goodIn_app (goodIn_r _ [7, 8, 9] (by decide +kernel) (by decide +kernel)) gg_X12_error_X12_in_128
set_option maxHeartbeats 4000000 in
set_option maxRecDepth 100000 in
theorem c_X12_error (l : Launch) (dC : Nat → ClassId) (dI : Nat → Nat → Nat) (cy : Nat → ClassId) (b : Nat → Nat) (sz : Nat) (p0 : Int32) : Met l yX12_error v_X12_error ({ frames := 1, cells := 0, slots := 0, locals := 25 }) (va_Pc [.ref (b 0), .int p0] (ps dC dI cy (mw b cy) sz)) (va_Qi (fun (r : Int32) (_ : Unit) => ((p0 = 0) ∧ r = 0) ∨ ((p0 = 1) ∧ r = 0) ∨ ((p0 = 2) ∧ r = 0) ∨ ((¬ p0 = 0) ∧ (¬ p0 = 1) ∧ (¬ p0 = 2) ∧ (p0 < 10) ∧ r = (-1)) ∨ ((¬ p0 = 0) ∧ (¬ p0 = 1) ∧ (¬ p0 = 2) ∧ (¬ p0 < 10) ∧ ((9 : Int32) < p0) ∧ r = (-1))) (fun _ _ => True) (va_A (mw b cy) sz)) 0 0 (va_A (mw b cy) sz) := by
  refine Met.ofW (cc := cX12_error) (maxL := 2) (ret := (some .int)) (by decide) rfl ?_
  intro p e s m args below meth c s₁ B hml hv
  obtain ⟨rfl, hsz, hP, hC, hD0⟩ := hv
  have hK := hC.1
  have hx := B.exec
  have hb := B.bytes
  have hr := B.returns
  have hts := atoms_spec (ws := v_X12_error) B.pre
  have hown : s.vm.findClass RX12 = some m.cls := findClass_of_methodNamed B.named
  have hlocks := B.notSynchronized
  subst hsz
  have hD := hD0.self (sz := s.heap.size)
  generalize hAe : va_A (mw b cy) s.heap.size = A at hD ⊢
  have hA : ∀ q : Nat, s.heap.size ≤ q → A q := fun q h => by rw [← hAe]; exact Or.inr h
  have hS : va_S A s.heap s.heap [] := va_S.rf
  have hl := lv_entry ([.ref (b 0), .int p0]) (n := 2) (Nat.le_of_ble_eq_true rfl)
  rw [lg_entry_eq]
  generalize (lg_sl ([.ref (b 0), .int p0]) ++ List.replicate (2 - (lg_sl ([.ref (b 0), .int p0])).length) Slot.unset).toArray = ls at hl ⊢
  have hl : lv_has ls 2 [(0, .ref (b 0)), (1, .int p0)] := hl
  refine lv_aload_n hx hb dX12_error_0 rfl (lv_at hl 0 rfl) ?_
  refine lv_iconst (v := 0) hx hb dX12_error_1 (by decide) ?_
  refine va_put (D := (dC, dI)) (ci := 12) (v := .int 0) (ty := .int) (C := RX12) (T := TX12) (N := 59) hx hb hts i_X12_error_X12 tyX12 tyX12_ok nmX12 hown hK hP hD hS 0 rfl rfl 0 (by decide) (hts _ m_X12_error_0) (fun _ h9 => h9) rfl (by decide +kernel) rfl rfl (Nat.le_of_ble_eq_true rfl) dX12_error_2 (fun H locs hP hD hS => ?_)
  have hP : va_P (dC, dI) vwCl (mw b cy) H := hP
  have hD : va_D A (mw b cy) := hD
  refine lv_iload_n hx hb dX12_error_5 rfl (lv_at hl 1 rfl) ?_
  by_cases c1_ : p0 = 0
  · skip
    subst c1_
    refine lv_tableIn (off := 26) (tgt := 32) hx hb dX12_error_6 (by decide) (by decide) (by decide) (by decide) ?_
    refine lv_aload_n hx hb dX12_error_32 rfl (lv_at hl 0 rfl) ?_
    refine va_get (D := (dC, dI)) (ci := 12) (v := .int 0) (C := RX12) (T := TX12) (N := 59) hx hb hts i_X12_error_X12 hown hK hP 0 rfl rfl 48 (by decide) (hts _ m_X12_error_1) (fun _ h9 => h9) rfl dX12_error_33 ?_
    exact W.iret (v := 0) hx hb hr (fun t ht hW => ⟨⟨0, (), rfl, Or.inl (⟨rfl, rfl⟩), trivial⟩, hS.F ht⟩) hS.2.2 dX12_error_36
  by_cases c2_ : p0 = 1
  · skip
    subst c2_
    refine lv_tableIn (off := 31) (tgt := 37) hx hb dX12_error_6 (by decide) (by decide) (by decide) (by decide) ?_
    refine lv_aload_n hx hb dX12_error_37 rfl (lv_at hl 0 rfl) ?_
    refine va_get (D := (dC, dI)) (ci := 12) (v := .int 0) (C := RX12) (T := TX12) (N := 59) hx hb hts i_X12_error_X12 hown hK hP 0 rfl rfl 49 (by decide) (hts _ m_X12_error_2) (fun _ h9 => h9) rfl dX12_error_38 ?_
    exact W.iret (v := 0) hx hb hr (fun t ht hW => ⟨⟨0, (), rfl, Or.inr (Or.inl (⟨rfl, rfl⟩)), trivial⟩, hS.F ht⟩) hS.2.2 dX12_error_41
  by_cases c3_ : p0 = 2
  · skip
    subst c3_
    refine lv_tableIn (off := 36) (tgt := 42) hx hb dX12_error_6 (by decide) (by decide) (by decide) (by decide) ?_
    refine lv_aload_n hx hb dX12_error_42 rfl (lv_at hl 0 rfl) ?_
    refine va_get (D := (dC, dI)) (ci := 12) (v := .int 0) (C := RX12) (T := TX12) (N := 59) hx hb hts i_X12_error_X12 hown hK hP 0 rfl rfl 50 (by decide) (hts _ m_X12_error_3) (fun _ h9 => h9) rfl dX12_error_43 ?_
    exact W.iret (v := 0) hx hb hr (fun t ht hW => ⟨⟨0, (), rfl, Or.inr (Or.inr (Or.inl (⟨rfl, rfl⟩))), trivial⟩, hS.F ht⟩) hS.2.2 dX12_error_46
  have e4_ : p0.toInt < 0 ∨ 2 < p0.toInt := by
    have z0_ := tz_neq_r c1_ (show (0 : Int32).toInt = 0 by decide)
    have z1_ := tz_neq_r c2_ (show (1 : Int32).toInt = 1 by decide)
    have z2_ := tz_neq_r c3_ (show (2 : Int32).toInt = 2 by decide)
    omega
  refine lv_tableOut (tgt := 47) hx hb dX12_error_6 e4_ (by decide) ?_
  refine lv_iload_n hx hb dX12_error_47 rfl (lv_at hl 1 rfl) ?_
  refine lv_i2l (v := Int32.toInt64 p0) hx hb dX12_error_48 rfl ?_
  refine lv_ldc2 (v := 10) hx hb hown (hts _ m_X12_error_4) dX12_error_49 ?_
  refine tk_l (Int32.toInt64 10) (by decide) ?_
  refine lv_ldc2 (v := 9) hx hb hown (hts _ m_X12_error_5) dX12_error_52 ?_
  refine tk_l (Int32.toInt64 9) (by decide) ?_
  refine lv_iconst (v := 2) hx hb dX12_error_55 (by decide) ?_
  refine lv_aload_n hx hb dX12_error_56 rfl (lv_at hl 0 rfl) ?_
  refine va_get (D := (dC, dI)) (ci := 12) (v := .int 0) (C := RX12) (T := TX12) (N := 59) hx hb hts i_X12_error_X12 hown hK hP 0 rfl rfl 50 (by decide) (hts _ m_X12_error_3) (fun _ h9 => h9) rfl dX12_error_57 ?_
  refine lv_imul hx hb dX12_error_60 ?_
  refine tk_i 0 (by decide) ?_
  refine lv_i2l (v := Int32.toInt64 0) hx hb dX12_error_61 rfl ?_
  refine lv_ladd hx hb dX12_error_62 ?_
  refine tk_l (Int32.toInt64 9) (by decide) ?_
  refine tk_pi (va_runS (As := [.long (Int32.toInt64 p0), .long (Int32.toInt64 10), .long (Int32.toInt64 9)]) (rest := []) ⟨hx, hb, hml, hown, hts⟩ (c_X12_in l dC dI cy  p0 10 9) (va_cwS 3 hts g_X12_error_X12_in_128 rfl rfl rfl (by decide +kernel) ⟨Nat.le_of_ble_eq_true rfl, Nat.le_of_ble_eq_true rfl⟩) (pS_pp hC va_P0) rfl rfl hl.1 rfl (lv_room (Nat.le_of_ble_eq_true rfl)) dX12_error_63 ⟨Nat.le_of_ble_eq_true rfl, Nat.le_of_ble_eq_true rfl⟩) hP hS (fun r_ H locs hw hP hS => ?_)
  rcases hw with ⟨c5_, rfl⟩ | ⟨c6_, c7_, rfl⟩ | ⟨c8_, c9_, rfl⟩
  · skip
    refine lv_if_eq (tgt := 81) hx hb dX12_error_66 (by decide) (fun _ => ?_) (fun c9_ => absurd (by decide) c9_)
    refine lv_iconst (v := (-1)) hx hb dX12_error_81 (by decide) ?_
    exact W.iret (v := (-1)) hx hb hr (fun t ht hW => ⟨⟨(-1), (), rfl, Or.inr (Or.inr (Or.inr (Or.inl (⟨c1_, c2_, c3_, c5_, rfl⟩)))), trivial⟩, hS.F ht⟩) hS.2.2 dX12_error_82
  · skip
    refine lv_if_eq (tgt := 81) hx hb dX12_error_66 (by decide) (fun _ => ?_) (fun c9_ => absurd (by decide) c9_)
    refine lv_iconst (v := (-1)) hx hb dX12_error_81 (by decide) ?_
    exact W.iret (v := (-1)) hx hb hr (fun t ht hW => ⟨⟨(-1), (), rfl, Or.inr (Or.inr (Or.inr (Or.inr (⟨c1_, c2_, c3_, c6_, c7_, rfl⟩)))), trivial⟩, hS.F ht⟩) hS.2.2 dX12_error_82
  · skip
    exfalso
    have z0_ := tz_neq_r c1_ (show (0 : Int32).toInt = 0 by decide)
    have z1_ := tz_neq_r c2_ (show (1 : Int32).toInt = 1 by decide)
    have z2_ := tz_neq_r c3_ (show (2 : Int32).toInt = 2 by decide)
    have z3_ := tz_nlt_r c8_ (show (10 : Int32).toInt = 10 by decide)
    have z4_ := tz_nlt_l c9_ (show (9 : Int32).toInt = 9 by decide)
    omega

theorem dX12_note_0 : decode cX12_note 0 = .ok (.aload_n 0, 1) := by decide +kernel
theorem dX12_note_1 : decode cX12_note 1 = .ok (.iconst 0, 1) := by decide +kernel
theorem dX12_note_2 : decode cX12_note 2 = .ok (.putfield 105, 3) := by decide +kernel
theorem dX12_note_5 : decode cX12_note 5 = .ok (.iload_n 1, 1) := by decide +kernel
theorem dX12_note_6 : decode cX12_note 6 = .ok (.i2l, 1) := by decide +kernel
theorem dX12_note_7 : decode cX12_note 7 = .ok (.lconst 0, 1) := by decide +kernel
theorem dX12_note_8 : decode cX12_note 8 = .ok (.aload_n 0, 1) := by decide +kernel
theorem dX12_note_9 : decode cX12_note 9 = .ok (.getfield 13, 3) := by decide +kernel
theorem dX12_note_12 : decode cX12_note 12 = .ok (.sipush 3310, 3) := by decide +kernel
theorem dX12_note_15 : decode cX12_note 15 = .ok (.iaload, 1) := by decide +kernel
theorem dX12_note_16 : decode cX12_note 16 = .ok (.i2l, 1) := by decide +kernel
theorem dX12_note_17 : decode cX12_note 17 = .ok (.lconst 1, 1) := by decide +kernel
theorem dX12_note_18 : decode cX12_note 18 = .ok (.lsub, 1) := by decide +kernel
theorem dX12_note_19 : decode cX12_note 19 = .ok (.invokestatic 128, 3) := by decide +kernel
theorem dX12_note_22 : decode cX12_note 22 = .ok (.ifCond .eq 41, 3) := by decide +kernel
theorem dX12_note_63 : decode cX12_note 63 = .ok (.iconst (-1), 1) := by decide +kernel
theorem dX12_note_64 : decode cX12_note 64 = .ok (.ireturn, 1) := by decide +kernel
def v_X12_note : List Cond := .code yX12_note cX12_note 3 (some .int) :: ([.fieldLink RX12 105 "RestBoardModel" "thrown" "I", .fieldLink RX12 13 "RestBoardModel" "row" "[I", .methodLink RX12 128 yX12_in, .static yX12_in, .initialized RX12, .code yX12_in cX12_in 6 (some .boolean)] ++ wsX120)
theorem m_X12_note_0 : (.fieldLink RX12 105 "RestBoardModel" "thrown" "I" : Cond) ∈ v_X12_note := List.mem_of_getElem? (i := 1) (by decide +kernel)
theorem m_X12_note_1 : (.fieldLink RX12 13 "RestBoardModel" "row" "[I" : Cond) ∈ v_X12_note := List.mem_of_getElem? (i := 2) (by decide +kernel)
theorem i_X12_note_X12 : ∀ w ∈ u_ws RX12 TX12 59, w ∈ v_X12_note := fun w h => List.mem_cons_of_mem _ (List.mem_append_right _ h)
set_option maxRecDepth 100000 in
theorem gg_X12_note_X12_in_128 : GoodIn v_X12_note v_X12_in := goodIn_r _ [6] (by decide +kernel) (by decide +kernel)
set_option maxRecDepth 100000 in
theorem g_X12_note_X12_in_128 : GoodIn v_X12_note (va_wsS RX12 128 yX12_in v_X12_in) := goodIn_app (goodIn_r _ [3, 4, 5] (by decide +kernel) (by decide +kernel)) gg_X12_note_X12_in_128
set_option maxHeartbeats 4000000 in
set_option maxRecDepth 100000 in
theorem c_X12_note (l : Launch) (dC : Nat → ClassId) (dI : Nat → Nat → Nat) (cy : Nat → ClassId) (b : Nat → Nat) (sz : Nat) (p0 p1 : Int32) : Met l yX12_note v_X12_note ({ frames := 1, cells := 0, slots := 0, locals := 25 }) (va_Pc [.ref (b 0), .int p0, .int p1] (ps dC dI cy (mw b cy) sz)) (va_Qi (fun (r : Int32) (_ : Unit) => ((p0 < 0) ∧ r = (-1)) ∨ ((¬ p0 < 0) ∧ (((-1) : Int32) < p0) ∧ r = (-1))) (fun _ _ => True) (va_A (mw b cy) sz)) 0 0 (va_A (mw b cy) sz) := by
  refine Met.ofW (cc := cX12_note) (maxL := 3) (ret := (some .int)) (by decide) rfl ?_
  intro p e s m args below meth c s₁ B hml hv
  obtain ⟨rfl, hsz, hP, hC, hD0⟩ := hv
  have hK := hC.1
  have hx := B.exec
  have hb := B.bytes
  have hr := B.returns
  have hts := atoms_spec (ws := v_X12_note) B.pre
  have hown : s.vm.findClass RX12 = some m.cls := findClass_of_methodNamed B.named
  have hlocks := B.notSynchronized
  subst hsz
  have hD := hD0.self (sz := s.heap.size)
  generalize hAe : va_A (mw b cy) s.heap.size = A at hD ⊢
  have hA : ∀ q : Nat, s.heap.size ≤ q → A q := fun q h => by rw [← hAe]; exact Or.inr h
  have hS : va_S A s.heap s.heap [] := va_S.rf
  have hl := lv_entry ([.ref (b 0), .int p0, .int p1]) (n := 3) (Nat.le_of_ble_eq_true rfl)
  rw [lg_entry_eq]
  generalize (lg_sl ([.ref (b 0), .int p0, .int p1]) ++ List.replicate (3 - (lg_sl ([.ref (b 0), .int p0, .int p1])).length) Slot.unset).toArray = ls at hl ⊢
  have hl : lv_has ls 3 [(0, .ref (b 0)), (1, .int p0), (2, .int p1)] := hl
  refine lv_aload_n hx hb dX12_note_0 rfl (lv_at hl 0 rfl) ?_
  refine lv_iconst (v := 0) hx hb dX12_note_1 (by decide) ?_
  refine va_put (D := (dC, dI)) (ci := 12) (v := .int 0) (ty := .int) (C := RX12) (T := TX12) (N := 59) hx hb hts i_X12_note_X12 tyX12 tyX12_ok nmX12 hown hK hP hD hS 0 rfl rfl 0 (by decide) (hts _ m_X12_note_0) (fun _ h9 => h9) rfl (by decide +kernel) rfl rfl (Nat.le_of_ble_eq_true rfl) dX12_note_2 (fun H locs hP hD hS => ?_)
  have hP : va_P (dC, dI) vwCl (mw b cy) H := hP
  have hD : va_D A (mw b cy) := hD
  refine lv_iload_n hx hb dX12_note_5 rfl (lv_at hl 1 rfl) ?_
  refine lv_i2l (v := Int32.toInt64 p0) hx hb dX12_note_6 rfl ?_
  refine lv_lconst (v := 0) hx hb dX12_note_7 (by decide) ?_
  refine tk_l (Int32.toInt64 0) (by decide) ?_
  refine lv_aload_n hx hb dX12_note_8 rfl (lv_at hl 0 rfl) ?_
  refine va_get (D := (dC, dI)) (ci := 12) (v := .ref (b 2)) (C := RX12) (T := TX12) (N := 59) hx hb hts i_X12_note_X12 hown hK hP 0 rfl rfl 3 (by decide) (hts _ m_X12_note_1) (fun _ h9 => h9) rfl dX12_note_9 ?_
  refine lv_sipush (v := 3310) hx hb dX12_note_12 (by decide) ?_
  refine va_iald hx hb hK hP 2 0 rfl rfl (show ¬ ((3310 : Int32) < 0 ∨ 3408 ≤ Int32.toNatClampNeg 3310) by decide) dX12_note_15 ?_
  refine tk_i 0 (by rfl) ?_
  refine lv_i2l (v := Int32.toInt64 0) hx hb dX12_note_16 rfl ?_
  refine lv_lconst (v := 1) hx hb dX12_note_17 (by decide) ?_
  refine tk_l (Int32.toInt64 1) (by decide) ?_
  refine lv_lsub hx hb dX12_note_18 ?_
  refine tk_l (Int32.toInt64 (-1)) (by decide) ?_
  refine tk_pi (va_runS (As := [.long (Int32.toInt64 p0), .long (Int32.toInt64 0), .long (Int32.toInt64 (-1))]) (rest := []) ⟨hx, hb, hml, hown, hts⟩ (c_X12_in l dC dI cy  p0 0 (-1)) (va_cwS 3 hts g_X12_note_X12_in_128 rfl rfl rfl (by decide +kernel) ⟨Nat.le_of_ble_eq_true rfl, Nat.le_of_ble_eq_true rfl⟩) (pS_pp hC va_P0) rfl rfl hl.1 rfl (lv_room (Nat.le_of_ble_eq_true rfl)) dX12_note_19 ⟨Nat.le_of_ble_eq_true rfl, Nat.le_of_ble_eq_true rfl⟩) hP hS (fun r_ H locs hw hP hS => ?_)
  rcases hw with ⟨c1_, rfl⟩ | ⟨c2_, c3_, rfl⟩ | ⟨c4_, c5_, rfl⟩
  · skip
    refine lv_if_eq (tgt := 63) hx hb dX12_note_22 (by decide) (fun _ => ?_) (fun c9_ => absurd (by decide) c9_)
    refine lv_iconst (v := (-1)) hx hb dX12_note_63 (by decide) ?_
    exact W.iret (v := (-1)) hx hb hr (fun t ht hW => ⟨⟨(-1), (), rfl, Or.inl (⟨c1_, rfl⟩), trivial⟩, hS.F ht⟩) hS.2.2 dX12_note_64
  · skip
    refine lv_if_eq (tgt := 63) hx hb dX12_note_22 (by decide) (fun _ => ?_) (fun c9_ => absurd (by decide) c9_)
    refine lv_iconst (v := (-1)) hx hb dX12_note_63 (by decide) ?_
    exact W.iret (v := (-1)) hx hb hr (fun t ht hW => ⟨⟨(-1), (), rfl, Or.inr (⟨c2_, c3_, rfl⟩), trivial⟩, hS.F ht⟩) hS.2.2 dX12_note_64
  · skip
    exfalso
    have z0_ := tz_nlt_r c4_ (show (0 : Int32).toInt = 0 by decide)
    have z1_ := tz_nlt_l c5_ (show ((-1) : Int32).toInt = -1 by decide)
    omega

theorem dX12_switched_0 : decode cX12_switched 0 = .ok (.aload_n 0, 1) := by decide +kernel
theorem dX12_switched_1 : decode cX12_switched 1 = .ok (.iconst 0, 1) := by decide +kernel
theorem dX12_switched_2 : decode cX12_switched 2 = .ok (.putfield 105, 3) := by decide +kernel
theorem dX12_switched_5 : decode cX12_switched 5 = .ok (.iload_n 1, 1) := by decide +kernel
theorem dX12_switched_6 : decode cX12_switched 6 = .ok (.i2l, 1) := by decide +kernel
theorem dX12_switched_7 : decode cX12_switched 7 = .ok (.lconst 0, 1) := by decide +kernel
theorem dX12_switched_8 : decode cX12_switched 8 = .ok (.aload_n 0, 1) := by decide +kernel
theorem dX12_switched_9 : decode cX12_switched 9 = .ok (.getfield 13, 3) := by decide +kernel
theorem dX12_switched_12 : decode cX12_switched 12 = .ok (.sipush 3343, 3) := by decide +kernel
theorem dX12_switched_15 : decode cX12_switched 15 = .ok (.iaload, 1) := by decide +kernel
theorem dX12_switched_16 : decode cX12_switched 16 = .ok (.i2l, 1) := by decide +kernel
theorem dX12_switched_17 : decode cX12_switched 17 = .ok (.lconst 1, 1) := by decide +kernel
theorem dX12_switched_18 : decode cX12_switched 18 = .ok (.lsub, 1) := by decide +kernel
theorem dX12_switched_19 : decode cX12_switched 19 = .ok (.invokestatic 128, 3) := by decide +kernel
theorem dX12_switched_22 : decode cX12_switched 22 = .ok (.ifCond .eq 41, 3) := by decide +kernel
theorem dX12_switched_63 : decode cX12_switched 63 = .ok (.iconst (-1), 1) := by decide +kernel
theorem dX12_switched_64 : decode cX12_switched 64 = .ok (.ireturn, 1) := by decide +kernel
def v_X12_switched : List Cond := .code yX12_switched cX12_switched 3 (some .int) :: ([.fieldLink RX12 105 "RestBoardModel" "thrown" "I", .fieldLink RX12 13 "RestBoardModel" "row" "[I", .methodLink RX12 128 yX12_in, .static yX12_in, .initialized RX12, .code yX12_in cX12_in 6 (some .boolean)] ++ wsX120)
theorem m_X12_switched_0 : (.fieldLink RX12 105 "RestBoardModel" "thrown" "I" : Cond) ∈ v_X12_switched := List.mem_of_getElem? (i := 1) (by decide +kernel)
theorem m_X12_switched_1 : (.fieldLink RX12 13 "RestBoardModel" "row" "[I" : Cond) ∈ v_X12_switched := List.mem_of_getElem? (i := 2) (by decide +kernel)
theorem i_X12_switched_X12 : ∀ w ∈ u_ws RX12 TX12 59, w ∈ v_X12_switched := fun w h => List.mem_cons_of_mem _ (List.mem_append_right _ h)
set_option maxRecDepth 100000 in
theorem gg_X12_switched_X12_in_128 : GoodIn v_X12_switched v_X12_in := goodIn_r _ [6] (by decide +kernel) (by decide +kernel)
set_option maxRecDepth 100000 in
theorem g_X12_switched_X12_in_128 : GoodIn v_X12_switched (va_wsS RX12 128 yX12_in v_X12_in) := goodIn_app (goodIn_r _ [3, 4, 5] (by decide +kernel) (by decide +kernel)) gg_X12_switched_X12_in_128
set_option maxHeartbeats 4000000 in
set_option maxRecDepth 100000 in
theorem c_X12_switched (l : Launch) (dC : Nat → ClassId) (dI : Nat → Nat → Nat) (cy : Nat → ClassId) (b : Nat → Nat) (sz : Nat) (p0 p1 : Int32) : Met l yX12_switched v_X12_switched ({ frames := 1, cells := 0, slots := 0, locals := 25 }) (va_Pc [.ref (b 0), .int p0, .int p1] (ps dC dI cy (mw b cy) sz)) (va_Qi (fun (r : Int32) (_ : Unit) => ((p0 < 0) ∧ r = (-1)) ∨ ((¬ p0 < 0) ∧ (((-1) : Int32) < p0) ∧ r = (-1))) (fun _ _ => True) (va_A (mw b cy) sz)) 0 0 (va_A (mw b cy) sz) := by
  refine Met.ofW (cc := cX12_switched) (maxL := 3) (ret := (some .int)) (by decide) rfl ?_
  intro p e s m args below meth c s₁ B hml hv
  obtain ⟨rfl, hsz, hP, hC, hD0⟩ := hv
  have hK := hC.1
  have hx := B.exec
  have hb := B.bytes
  have hr := B.returns
  have hts := atoms_spec (ws := v_X12_switched) B.pre
  have hown : s.vm.findClass RX12 = some m.cls := findClass_of_methodNamed B.named
  have hlocks := B.notSynchronized
  subst hsz
  have hD := hD0.self (sz := s.heap.size)
  generalize hAe : va_A (mw b cy) s.heap.size = A at hD ⊢
  have hA : ∀ q : Nat, s.heap.size ≤ q → A q := fun q h => by rw [← hAe]; exact Or.inr h
  have hS : va_S A s.heap s.heap [] := va_S.rf
  have hl := lv_entry ([.ref (b 0), .int p0, .int p1]) (n := 3) (Nat.le_of_ble_eq_true rfl)
  rw [lg_entry_eq]
  generalize (lg_sl ([.ref (b 0), .int p0, .int p1]) ++ List.replicate (3 - (lg_sl ([.ref (b 0), .int p0, .int p1])).length) Slot.unset).toArray = ls at hl ⊢
  have hl : lv_has ls 3 [(0, .ref (b 0)), (1, .int p0), (2, .int p1)] := hl
  refine lv_aload_n hx hb dX12_switched_0 rfl (lv_at hl 0 rfl) ?_
  refine lv_iconst (v := 0) hx hb dX12_switched_1 (by decide) ?_
  refine va_put (D := (dC, dI)) (ci := 12) (v := .int 0) (ty := .int) (C := RX12) (T := TX12) (N := 59) hx hb hts i_X12_switched_X12 tyX12 tyX12_ok nmX12 hown hK hP hD hS 0 rfl rfl 0 (by decide) (hts _ m_X12_switched_0) (fun _ h9 => h9) rfl (by decide +kernel) rfl rfl (Nat.le_of_ble_eq_true rfl) dX12_switched_2 (fun H locs hP hD hS => ?_)
  have hP : va_P (dC, dI) vwCl (mw b cy) H := hP
  have hD : va_D A (mw b cy) := hD
  refine lv_iload_n hx hb dX12_switched_5 rfl (lv_at hl 1 rfl) ?_
  refine lv_i2l (v := Int32.toInt64 p0) hx hb dX12_switched_6 rfl ?_
  refine lv_lconst (v := 0) hx hb dX12_switched_7 (by decide) ?_
  refine tk_l (Int32.toInt64 0) (by decide) ?_
  refine lv_aload_n hx hb dX12_switched_8 rfl (lv_at hl 0 rfl) ?_
  refine va_get (D := (dC, dI)) (ci := 12) (v := .ref (b 2)) (C := RX12) (T := TX12) (N := 59) hx hb hts i_X12_switched_X12 hown hK hP 0 rfl rfl 3 (by decide) (hts _ m_X12_switched_1) (fun _ h9 => h9) rfl dX12_switched_9 ?_
  refine lv_sipush (v := 3343) hx hb dX12_switched_12 (by decide) ?_
  refine va_iald hx hb hK hP 2 0 rfl rfl (show ¬ ((3343 : Int32) < 0 ∨ 3408 ≤ Int32.toNatClampNeg 3343) by decide) dX12_switched_15 ?_
  refine tk_i 0 (by rfl) ?_
  refine lv_i2l (v := Int32.toInt64 0) hx hb dX12_switched_16 rfl ?_
  refine lv_lconst (v := 1) hx hb dX12_switched_17 (by decide) ?_
  refine tk_l (Int32.toInt64 1) (by decide) ?_
  refine lv_lsub hx hb dX12_switched_18 ?_
  refine tk_l (Int32.toInt64 (-1)) (by decide) ?_
  refine tk_pi (va_runS (As := [.long (Int32.toInt64 p0), .long (Int32.toInt64 0), .long (Int32.toInt64 (-1))]) (rest := []) ⟨hx, hb, hml, hown, hts⟩ (c_X12_in l dC dI cy  p0 0 (-1)) (va_cwS 3 hts g_X12_switched_X12_in_128 rfl rfl rfl (by decide +kernel) ⟨Nat.le_of_ble_eq_true rfl, Nat.le_of_ble_eq_true rfl⟩) (pS_pp hC va_P0) rfl rfl hl.1 rfl (lv_room (Nat.le_of_ble_eq_true rfl)) dX12_switched_19 ⟨Nat.le_of_ble_eq_true rfl, Nat.le_of_ble_eq_true rfl⟩) hP hS (fun r_ H locs hw hP hS => ?_)
  rcases hw with ⟨c1_, rfl⟩ | ⟨c2_, c3_, rfl⟩ | ⟨c4_, c5_, rfl⟩
  · skip
    refine lv_if_eq (tgt := 63) hx hb dX12_switched_22 (by decide) (fun _ => ?_) (fun c9_ => absurd (by decide) c9_)
    refine lv_iconst (v := (-1)) hx hb dX12_switched_63 (by decide) ?_
    exact W.iret (v := (-1)) hx hb hr (fun t ht hW => ⟨⟨(-1), (), rfl, Or.inl (⟨c1_, rfl⟩), trivial⟩, hS.F ht⟩) hS.2.2 dX12_switched_64
  · skip
    refine lv_if_eq (tgt := 63) hx hb dX12_switched_22 (by decide) (fun _ => ?_) (fun c9_ => absurd (by decide) c9_)
    refine lv_iconst (v := (-1)) hx hb dX12_switched_63 (by decide) ?_
    exact W.iret (v := (-1)) hx hb hr (fun t ht hW => ⟨⟨(-1), (), rfl, Or.inr (⟨c2_, c3_, rfl⟩), trivial⟩, hS.F ht⟩) hS.2.2 dX12_switched_64
  · skip
    exfalso
    have z0_ := tz_nlt_r c4_ (show (0 : Int32).toInt = 0 by decide)
    have z1_ := tz_nlt_l c5_ (show ((-1) : Int32).toInt = -1 by decide)
    omega

theorem dX12_count_0 : decode cX12_count 0 = .ok (.aload_n 0, 1) := by decide +kernel
theorem dX12_count_1 : decode cX12_count 1 = .ok (.iconst 0, 1) := by decide +kernel
theorem dX12_count_2 : decode cX12_count 2 = .ok (.putfield 105, 3) := by decide +kernel
theorem dX12_count_5 : decode cX12_count 5 = .ok (.iload_n 1, 1) := by decide +kernel
theorem dX12_count_6 : decode cX12_count 6 = .ok (.tableswitch 174 0 13 #[70, 79, 85, 94, 100, 105, 114, 123, 132, 141, 150, 159, 164, 169], 70) := by decide +kernel
theorem dX12_count_76 : decode cX12_count 76 = .ok (.aload_n 0, 1) := by decide +kernel
theorem dX12_count_77 : decode cX12_count 77 = .ok (.getfield 13, 3) := by decide +kernel
theorem dX12_count_80 : decode cX12_count 80 = .ok (.sipush 3264, 3) := by decide +kernel
theorem dX12_count_83 : decode cX12_count 83 = .ok (.iaload, 1) := by decide +kernel
theorem dX12_count_84 : decode cX12_count 84 = .ok (.ireturn, 1) := by decide +kernel
theorem dX12_count_85 : decode cX12_count 85 = .ok (.aload_n 0, 1) := by decide +kernel
theorem dX12_count_86 : decode cX12_count 86 = .ok (.iconst 1, 1) := by decide +kernel
theorem dX12_count_87 : decode cX12_count 87 = .ok (.invokevirtual 537, 3) := by decide +kernel
theorem dX12_count_90 : decode cX12_count 90 = .ok (.ireturn, 1) := by decide +kernel
theorem dX12_count_91 : decode cX12_count 91 = .ok (.aload_n 0, 1) := by decide +kernel
theorem dX12_count_92 : decode cX12_count 92 = .ok (.getfield 13, 3) := by decide +kernel
theorem dX12_count_95 : decode cX12_count 95 = .ok (.sipush 3306, 3) := by decide +kernel
theorem dX12_count_98 : decode cX12_count 98 = .ok (.iaload, 1) := by decide +kernel
theorem dX12_count_99 : decode cX12_count 99 = .ok (.ireturn, 1) := by decide +kernel
theorem dX12_count_100 : decode cX12_count 100 = .ok (.aload_n 0, 1) := by decide +kernel
theorem dX12_count_101 : decode cX12_count 101 = .ok (.iconst 2, 1) := by decide +kernel
theorem dX12_count_102 : decode cX12_count 102 = .ok (.invokevirtual 537, 3) := by decide +kernel
theorem dX12_count_105 : decode cX12_count 105 = .ok (.ireturn, 1) := by decide +kernel
theorem dX12_count_106 : decode cX12_count 106 = .ok (.aload_n 0, 1) := by decide +kernel
theorem dX12_count_107 : decode cX12_count 107 = .ok (.invokevirtual 540, 3) := by decide +kernel
theorem dX12_count_110 : decode cX12_count 110 = .ok (.ireturn, 1) := by decide +kernel
theorem dX12_count_111 : decode cX12_count 111 = .ok (.aload_n 0, 1) := by decide +kernel
theorem dX12_count_112 : decode cX12_count 112 = .ok (.getfield 13, 3) := by decide +kernel
theorem dX12_count_115 : decode cX12_count 115 = .ok (.sipush 3307, 3) := by decide +kernel
theorem dX12_count_118 : decode cX12_count 118 = .ok (.iaload, 1) := by decide +kernel
theorem dX12_count_119 : decode cX12_count 119 = .ok (.ireturn, 1) := by decide +kernel
theorem dX12_count_120 : decode cX12_count 120 = .ok (.aload_n 0, 1) := by decide +kernel
theorem dX12_count_121 : decode cX12_count 121 = .ok (.getfield 13, 3) := by decide +kernel
theorem dX12_count_124 : decode cX12_count 124 = .ok (.sipush 3308, 3) := by decide +kernel
theorem dX12_count_127 : decode cX12_count 127 = .ok (.iaload, 1) := by decide +kernel
theorem dX12_count_128 : decode cX12_count 128 = .ok (.ireturn, 1) := by decide +kernel
theorem dX12_count_129 : decode cX12_count 129 = .ok (.aload_n 0, 1) := by decide +kernel
theorem dX12_count_130 : decode cX12_count 130 = .ok (.getfield 13, 3) := by decide +kernel
theorem dX12_count_133 : decode cX12_count 133 = .ok (.sipush 3309, 3) := by decide +kernel
theorem dX12_count_136 : decode cX12_count 136 = .ok (.iaload, 1) := by decide +kernel
theorem dX12_count_137 : decode cX12_count 137 = .ok (.ireturn, 1) := by decide +kernel
theorem dX12_count_138 : decode cX12_count 138 = .ok (.aload_n 0, 1) := by decide +kernel
theorem dX12_count_139 : decode cX12_count 139 = .ok (.getfield 13, 3) := by decide +kernel
theorem dX12_count_142 : decode cX12_count 142 = .ok (.sipush 3265, 3) := by decide +kernel
theorem dX12_count_145 : decode cX12_count 145 = .ok (.iaload, 1) := by decide +kernel
theorem dX12_count_146 : decode cX12_count 146 = .ok (.ireturn, 1) := by decide +kernel
theorem dX12_count_147 : decode cX12_count 147 = .ok (.aload_n 0, 1) := by decide +kernel
theorem dX12_count_148 : decode cX12_count 148 = .ok (.getfield 13, 3) := by decide +kernel
theorem dX12_count_151 : decode cX12_count 151 = .ok (.sipush 3310, 3) := by decide +kernel
theorem dX12_count_154 : decode cX12_count 154 = .ok (.iaload, 1) := by decide +kernel
theorem dX12_count_155 : decode cX12_count 155 = .ok (.ireturn, 1) := by decide +kernel
theorem dX12_count_156 : decode cX12_count 156 = .ok (.aload_n 0, 1) := by decide +kernel
theorem dX12_count_157 : decode cX12_count 157 = .ok (.getfield 13, 3) := by decide +kernel
theorem dX12_count_160 : decode cX12_count 160 = .ok (.sipush 3343, 3) := by decide +kernel
theorem dX12_count_163 : decode cX12_count 163 = .ok (.iaload, 1) := by decide +kernel
theorem dX12_count_164 : decode cX12_count 164 = .ok (.ireturn, 1) := by decide +kernel
theorem dX12_count_165 : decode cX12_count 165 = .ok (.aload_n 0, 1) := by decide +kernel
theorem dX12_count_166 : decode cX12_count 166 = .ok (.getfield 397, 3) := by decide +kernel
theorem dX12_count_169 : decode cX12_count 169 = .ok (.ireturn, 1) := by decide +kernel
theorem dX12_count_170 : decode cX12_count 170 = .ok (.aload_n 0, 1) := by decide +kernel
theorem dX12_count_171 : decode cX12_count 171 = .ok (.getfield 111, 3) := by decide +kernel
theorem dX12_count_174 : decode cX12_count 174 = .ok (.ireturn, 1) := by decide +kernel
theorem dX12_count_175 : decode cX12_count 175 = .ok (.aload_n 0, 1) := by decide +kernel
theorem dX12_count_176 : decode cX12_count 176 = .ok (.getfield 153, 3) := by decide +kernel
theorem dX12_count_179 : decode cX12_count 179 = .ok (.ireturn, 1) := by decide +kernel
theorem dX12_count_180 : decode cX12_count 180 = .ok (.iload_n 1, 1) := by decide +kernel
theorem dX12_count_181 : decode cX12_count 181 = .ok (.i2l, 1) := by decide +kernel
theorem dX12_count_182 : decode cX12_count 182 = .ok (.ldc2_w 543, 3) := by decide +kernel
theorem dX12_count_185 : decode cX12_count 185 = .ok (.ldc2_w 521, 3) := by decide +kernel
theorem dX12_count_188 : decode cX12_count 188 = .ok (.invokestatic 128, 3) := by decide +kernel
theorem dX12_count_191 : decode cX12_count 191 = .ok (.ifCond .eq 15, 3) := by decide +kernel
theorem dX12_count_194 : decode cX12_count 194 = .ok (.aload_n 0, 1) := by decide +kernel
theorem dX12_count_195 : decode cX12_count 195 = .ok (.getfield 7, 3) := by decide +kernel
theorem dX12_count_198 : decode cX12_count 198 = .ok (.iload_n 1, 1) := by decide +kernel
theorem dX12_count_199 : decode cX12_count 199 = .ok (.bipush 13, 2) := by decide +kernel
theorem dX12_count_201 : decode cX12_count 201 = .ok (.isub, 1) := by decide +kernel
theorem dX12_count_202 : decode cX12_count 202 = .ok (.iaload, 1) := by decide +kernel
theorem dX12_count_203 : decode cX12_count 203 = .ok (.goto 4, 3) := by decide +kernel
theorem dX12_count_206 : decode cX12_count 206 = .ok (.iconst (-1), 1) := by decide +kernel
theorem dX12_count_207 : decode cX12_count 207 = .ok (.ireturn, 1) := by decide +kernel
def v_X12_count : List Cond := .code yX12_count cX12_count 2 (some .int) :: ([.fieldLink RX12 105 "RestBoardModel" "thrown" "I", .fieldLink RX12 13 "RestBoardModel" "row" "[I", .fieldLink RX12 397 "RestBoardModel" "latestSteps" "I", .fieldLink RX12 111 "RestBoardModel" "nUndo" "I", .fieldLink RX12 153 "RestBoardModel" "taped" "I", .constantLong RX12 543 (14), .constantLong RX12 521 (20), .fieldLink RX12 7 "RestBoardModel" "refusals" "[I", .methodLink RX12 537 yX12_manyOf, .instanceMethod yX12_manyOf, .selects RX12 yX12_manyOf yX12_manyOf, .initialized RX12, .code yX12_manyOf cX12_manyOf 4 (some .int), .methodLink RX12 136 yX12_kind, .instanceMethod yX12_kind, .selects RX12 yX12_kind yX12_kind, .code yX12_kind cX12_kind 2 (some .int), .methodLink RX12 125 yX12_at, .static yX12_at, .code yX12_at cX12_at 1 (some .int), .methodLink RX12 540 yX12_armedOnes, .instanceMethod yX12_armedOnes, .selects RX12 yX12_armedOnes yX12_armedOnes, .code yX12_armedOnes cX12_armedOnes 3 (some .int), .methodLink RX12 470 yX12_isArmed, .instanceMethod yX12_isArmed, .selects RX12 yX12_isArmed yX12_isArmed, .code yX12_isArmed cX12_isArmed 2 (some .boolean), .methodLink RX12 128 yX12_in, .static yX12_in, .code yX12_in cX12_in 6 (some .boolean)] ++ wsX120)
theorem m_X12_count_0 : (.fieldLink RX12 105 "RestBoardModel" "thrown" "I" : Cond) ∈ v_X12_count := List.mem_of_getElem? (i := 1) (by decide +kernel)
theorem m_X12_count_1 : (.fieldLink RX12 13 "RestBoardModel" "row" "[I" : Cond) ∈ v_X12_count := List.mem_of_getElem? (i := 2) (by decide +kernel)
theorem m_X12_count_2 : (.fieldLink RX12 397 "RestBoardModel" "latestSteps" "I" : Cond) ∈ v_X12_count := List.mem_of_getElem? (i := 3) (by decide +kernel)
theorem m_X12_count_3 : (.fieldLink RX12 111 "RestBoardModel" "nUndo" "I" : Cond) ∈ v_X12_count := List.mem_of_getElem? (i := 4) (by decide +kernel)
theorem m_X12_count_4 : (.fieldLink RX12 153 "RestBoardModel" "taped" "I" : Cond) ∈ v_X12_count := List.mem_of_getElem? (i := 5) (by decide +kernel)
theorem m_X12_count_5 : (.constantLong RX12 543 (14) : Cond) ∈ v_X12_count := List.mem_of_getElem? (i := 6) (by decide +kernel)
theorem m_X12_count_6 : (.constantLong RX12 521 (20) : Cond) ∈ v_X12_count := List.mem_of_getElem? (i := 7) (by decide +kernel)
theorem m_X12_count_7 : (.fieldLink RX12 7 "RestBoardModel" "refusals" "[I" : Cond) ∈ v_X12_count := List.mem_of_getElem? (i := 8) (by decide +kernel)
theorem i_X12_count_X12 : ∀ w ∈ u_ws RX12 TX12 59, w ∈ v_X12_count := fun w h => List.mem_cons_of_mem _ (List.mem_append_right _ h)
set_option maxRecDepth 100000 in
theorem gg_X12_count_X12_manyOf_537 : GoodIn v_X12_count v_X12_manyOf := goodIn_r _ [13, 2, 14, 15, 16, 12, 17, 18, 19, 20, 32, 33, 34, 35, 36, 37, 38, 39, 40, 41, 42, 43, 44, 45, 46, 47, 48, 49, 50, 51, 52, 53, 54, 55, 56, 57, 58, 59, 60, 61, 62, 63, 64, 65, 66, 67, 68, 69, 70, 71, 72, 73, 74, 75, 76, 77, 78, 79, 80, 81, 82, 83, 84, 85, 86, 87, 88, 89, 90] (by decide +kernel) (by decide +kernel)
set_option maxRecDepth 100000 in
theorem g_X12_count_X12_manyOf_537 : GoodIn v_X12_count (wsV RX12 537 RX12 yX12_manyOf v_X12_manyOf) := goodIn_app (goodIn_r _ [9, 10, 11, 12] (by decide +kernel) (by decide +kernel)) gg_X12_count_X12_manyOf_537
set_option maxRecDepth 100000 in
theorem gg_X12_count_X12_armedOnes_540 : GoodIn v_X12_count v_X12_armedOnes := goodIn_r _ [24, 2, 25, 26, 27, 12, 28, 14, 15, 16, 17, 18, 19, 20, 32, 33, 34, 35, 36, 37, 38, 39, 40, 41, 42, 43, 44, 45, 46, 47, 48, 49, 50, 51, 52, 53, 54, 55, 56, 57, 58, 59, 60, 61, 62, 63, 64, 65, 66, 67, 68, 69, 70, 71, 72, 73, 74, 75, 76, 77, 78, 79, 80, 81, 82, 83, 84, 85, 86, 87, 88, 89, 90] (by decide +kernel) (by decide +kernel)
set_option maxRecDepth 100000 in
theorem g_X12_count_X12_armedOnes_540 : GoodIn v_X12_count (wsV RX12 540 RX12 yX12_armedOnes v_X12_armedOnes) := goodIn_app (goodIn_r _ [21, 22, 23, 12] (by decide +kernel) (by decide +kernel)) gg_X12_count_X12_armedOnes_540
set_option maxRecDepth 100000 in
theorem gg_X12_count_X12_in_128 : GoodIn v_X12_count v_X12_in := goodIn_r _ [31] (by decide +kernel) (by decide +kernel)
set_option maxRecDepth 100000 in
theorem g_X12_count_X12_in_128 : GoodIn v_X12_count (va_wsS RX12 128 yX12_in v_X12_in) := goodIn_app (goodIn_r _ [29, 30, 12] (by decide +kernel) (by decide +kernel)) gg_X12_count_X12_in_128
set_option maxHeartbeats 4000000 in
set_option maxRecDepth 100000 in
theorem c_X12_count (l : Launch) (dC : Nat → ClassId) (dI : Nat → Nat → Nat) (cy : Nat → ClassId) (b : Nat → Nat) (sz : Nat) (p0 : Int32) : Met l yX12_count v_X12_count ({ frames := 4, cells := 0, slots := 0, locals := 84 }) (va_Pc [.ref (b 0), .int p0] (ps dC dI cy (mw b cy) sz)) (va_Qi (fun (r : Int32) (_ : Unit) => ((p0 = 0) ∧ r = 1) ∨ ((p0 = 1) ∧ r = 1) ∨ ((p0 = 2) ∧ r = 0) ∨ ((p0 = 3) ∧ r = 0) ∨ ((p0 = 4) ∧ r = 0) ∨ ((p0 = 5) ∧ r = 0) ∨ ((p0 = 6) ∧ r = 0) ∨ ((p0 = 7) ∧ r = 0) ∨ ((p0 = 8) ∧ r = 0) ∨ ((p0 = 9) ∧ r = 0) ∨ ((p0 = 10) ∧ r = 0) ∨ ((p0 = 11) ∧ r = 0) ∨ ((p0 = 12) ∧ r = 0) ∨ ((p0 = 13) ∧ r = 0) ∨ ((¬ p0 = 0) ∧ (¬ p0 = 1) ∧ (¬ p0 = 2) ∧ (¬ p0 = 3) ∧ (¬ p0 = 4) ∧ (¬ p0 = 5) ∧ (¬ p0 = 6) ∧ (¬ p0 = 7) ∧ (¬ p0 = 8) ∧ (¬ p0 = 9) ∧ (¬ p0 = 10) ∧ (¬ p0 = 11) ∧ (¬ p0 = 12) ∧ (¬ p0 = 13) ∧ (p0 < 14) ∧ r = (-1)) ∨ ((¬ p0 = 0) ∧ (¬ p0 = 1) ∧ (¬ p0 = 2) ∧ (¬ p0 = 3) ∧ (¬ p0 = 4) ∧ (¬ p0 = 5) ∧ (¬ p0 = 6) ∧ (¬ p0 = 7) ∧ (¬ p0 = 8) ∧ (¬ p0 = 9) ∧ (¬ p0 = 10) ∧ (¬ p0 = 11) ∧ (¬ p0 = 12) ∧ (¬ p0 = 13) ∧ (¬ p0 < 14) ∧ ((20 : Int32) < p0) ∧ r = (-1)) ∨ ((¬ p0 = 0) ∧ (¬ p0 = 1) ∧ (¬ p0 = 2) ∧ (¬ p0 = 3) ∧ (¬ p0 = 4) ∧ (¬ p0 = 5) ∧ (¬ p0 = 6) ∧ (¬ p0 = 7) ∧ (¬ p0 = 8) ∧ (¬ p0 = 9) ∧ (¬ p0 = 10) ∧ (¬ p0 = 11) ∧ (¬ p0 = 12) ∧ (¬ p0 = 13) ∧ (¬ p0 < 14) ∧ (¬ (20 : Int32) < p0) ∧ r = 0)) (fun _ _ => True) (va_A (mw b cy) sz)) 0 0 (va_A (mw b cy) sz) := by
  refine Met.ofW (cc := cX12_count) (maxL := 2) (ret := (some .int)) (by decide) rfl ?_
  intro p e s m args below meth c s₁ B hml hv
  obtain ⟨rfl, hsz, hP, hC, hD0⟩ := hv
  have hK := hC.1
  have hx := B.exec
  have hb := B.bytes
  have hr := B.returns
  have hts := atoms_spec (ws := v_X12_count) B.pre
  have hown : s.vm.findClass RX12 = some m.cls := findClass_of_methodNamed B.named
  have hlocks := B.notSynchronized
  subst hsz
  have hD := hD0.self (sz := s.heap.size)
  generalize hAe : va_A (mw b cy) s.heap.size = A at hD ⊢
  have hA : ∀ q : Nat, s.heap.size ≤ q → A q := fun q h => by rw [← hAe]; exact Or.inr h
  have hS : va_S A s.heap s.heap [] := va_S.rf
  have hl := lv_entry ([.ref (b 0), .int p0]) (n := 2) (Nat.le_of_ble_eq_true rfl)
  rw [lg_entry_eq]
  generalize (lg_sl ([.ref (b 0), .int p0]) ++ List.replicate (2 - (lg_sl ([.ref (b 0), .int p0])).length) Slot.unset).toArray = ls at hl ⊢
  have hl : lv_has ls 2 [(0, .ref (b 0)), (1, .int p0)] := hl
  refine lv_aload_n hx hb dX12_count_0 rfl (lv_at hl 0 rfl) ?_
  refine lv_iconst (v := 0) hx hb dX12_count_1 (by decide) ?_
  refine va_put (D := (dC, dI)) (ci := 12) (v := .int 0) (ty := .int) (C := RX12) (T := TX12) (N := 59) hx hb hts i_X12_count_X12 tyX12 tyX12_ok nmX12 hown hK hP hD hS 0 rfl rfl 0 (by decide) (hts _ m_X12_count_0) (fun _ h9 => h9) rfl (by decide +kernel) rfl rfl (Nat.le_of_ble_eq_true rfl) dX12_count_2 (fun H locs hP hD hS => ?_)
  have hP : va_P (dC, dI) vwCl (mw b cy) H := hP
  have hD : va_D A (mw b cy) := hD
  refine lv_iload_n hx hb dX12_count_5 rfl (lv_at hl 1 rfl) ?_
  by_cases c1_ : p0 = 0
  · skip
    subst c1_
    refine lv_tableIn (off := 70) (tgt := 76) hx hb dX12_count_6 (by decide) (by decide) (by decide) (by decide) ?_
    refine lv_aload_n hx hb dX12_count_76 rfl (lv_at hl 0 rfl) ?_
    refine va_get (D := (dC, dI)) (ci := 12) (v := .ref (b 2)) (C := RX12) (T := TX12) (N := 59) hx hb hts i_X12_count_X12 hown hK hP 0 rfl rfl 3 (by decide) (hts _ m_X12_count_1) (fun _ h9 => h9) rfl dX12_count_77 ?_
    refine lv_sipush (v := 3264) hx hb dX12_count_80 (by decide) ?_
    refine va_iald hx hb hK hP 2 0 rfl rfl (show ¬ ((3264 : Int32) < 0 ∨ 3408 ≤ Int32.toNatClampNeg 3264) by decide) dX12_count_83 ?_
    refine tk_i 1 (by rfl) ?_
    exact W.iret (v := 1) hx hb hr (fun t ht hW => ⟨⟨1, (), rfl, Or.inl (⟨rfl, rfl⟩), trivial⟩, hS.F ht⟩) hS.2.2 dX12_count_84
  by_cases c2_ : p0 = 1
  · skip
    subst c2_
    refine lv_tableIn (off := 79) (tgt := 85) hx hb dX12_count_6 (by decide) (by decide) (by decide) (by decide) ?_
    refine lv_aload_n hx hb dX12_count_85 rfl (lv_at hl 0 rfl) ?_
    refine lv_iconst (v := 1) hx hb dX12_count_86 (by decide) ?_
    refine tk_pi (va_runV (As := [.int 1]) (rest := []) ⟨hx, hb, hml, hown, hts⟩ (c_X12_manyOf_1 l dC dI cy b) (cwV 1 hts g_X12_count_X12_manyOf_537 rfl rfl rfl (by decide +kernel) ⟨Nat.le_of_ble_eq_true rfl, Nat.le_of_ble_eq_true rfl⟩) (pv_pp hC hP (ci := 12) (q0 := 0) rfl rfl) rfl rfl hl.1 rfl (lv_room (Nat.le_of_ble_eq_true rfl)) dX12_count_87 ⟨Nat.le_of_ble_eq_true rfl, Nat.le_of_ble_eq_true rfl⟩) hP hS (fun r_ H locs hw hP hS => ?_)
    subst hw
    exact W.iret (v := 1) hx hb hr (fun t ht hW => ⟨⟨1, (), rfl, Or.inr (Or.inl (⟨rfl, rfl⟩)), trivial⟩, hS.F ht⟩) hS.2.2 dX12_count_90
  by_cases c3_ : p0 = 2
  · skip
    subst c3_
    refine lv_tableIn (off := 85) (tgt := 91) hx hb dX12_count_6 (by decide) (by decide) (by decide) (by decide) ?_
    refine lv_aload_n hx hb dX12_count_91 rfl (lv_at hl 0 rfl) ?_
    refine va_get (D := (dC, dI)) (ci := 12) (v := .ref (b 2)) (C := RX12) (T := TX12) (N := 59) hx hb hts i_X12_count_X12 hown hK hP 0 rfl rfl 3 (by decide) (hts _ m_X12_count_1) (fun _ h9 => h9) rfl dX12_count_92 ?_
    refine lv_sipush (v := 3306) hx hb dX12_count_95 (by decide) ?_
    refine va_iald hx hb hK hP 2 0 rfl rfl (show ¬ ((3306 : Int32) < 0 ∨ 3408 ≤ Int32.toNatClampNeg 3306) by decide) dX12_count_98 ?_
    refine tk_i 0 (by rfl) ?_
    exact W.iret (v := 0) hx hb hr (fun t ht hW => ⟨⟨0, (), rfl, Or.inr (Or.inr (Or.inl (⟨rfl, rfl⟩))), trivial⟩, hS.F ht⟩) hS.2.2 dX12_count_99
  by_cases c4_ : p0 = 3
  · skip
    subst c4_
    refine lv_tableIn (off := 94) (tgt := 100) hx hb dX12_count_6 (by decide) (by decide) (by decide) (by decide) ?_
    refine lv_aload_n hx hb dX12_count_100 rfl (lv_at hl 0 rfl) ?_
    refine lv_iconst (v := 2) hx hb dX12_count_101 (by decide) ?_
    refine tk_pi (va_runV (As := [.int 2]) (rest := []) ⟨hx, hb, hml, hown, hts⟩ (c_X12_manyOf_2 l dC dI cy b) (cwV 1 hts g_X12_count_X12_manyOf_537 rfl rfl rfl (by decide +kernel) ⟨Nat.le_of_ble_eq_true rfl, Nat.le_of_ble_eq_true rfl⟩) (pv_pp hC hP (ci := 12) (q0 := 0) rfl rfl) rfl rfl hl.1 rfl (lv_room (Nat.le_of_ble_eq_true rfl)) dX12_count_102 ⟨Nat.le_of_ble_eq_true rfl, Nat.le_of_ble_eq_true rfl⟩) hP hS (fun r_ H locs hw hP hS => ?_)
    subst hw
    exact W.iret (v := 0) hx hb hr (fun t ht hW => ⟨⟨0, (), rfl, Or.inr (Or.inr (Or.inr (Or.inl (⟨rfl, rfl⟩)))), trivial⟩, hS.F ht⟩) hS.2.2 dX12_count_105
  by_cases c5_ : p0 = 4
  · skip
    subst c5_
    refine lv_tableIn (off := 100) (tgt := 106) hx hb dX12_count_6 (by decide) (by decide) (by decide) (by decide) ?_
    refine lv_aload_n hx hb dX12_count_106 rfl (lv_at hl 0 rfl) ?_
    refine tk_pi (va_runV (As := []) (rest := []) ⟨hx, hb, hml, hown, hts⟩ (c_X12_armedOnes l dC dI cy b) (cwV 0 hts g_X12_count_X12_armedOnes_540 rfl rfl rfl (by decide +kernel) ⟨Nat.le_of_ble_eq_true rfl, Nat.le_of_ble_eq_true rfl⟩) (pv_pp hC hP (ci := 12) (q0 := 0) rfl rfl) rfl rfl hl.1 rfl (lv_room (Nat.le_of_ble_eq_true rfl)) dX12_count_107 ⟨Nat.le_of_ble_eq_true rfl, Nat.le_of_ble_eq_true rfl⟩) hP hS (fun r_ H locs hw hP hS => ?_)
    subst hw
    exact W.iret (v := 0) hx hb hr (fun t ht hW => ⟨⟨0, (), rfl, Or.inr (Or.inr (Or.inr (Or.inr (Or.inl (⟨rfl, rfl⟩))))), trivial⟩, hS.F ht⟩) hS.2.2 dX12_count_110
  by_cases c6_ : p0 = 5
  · skip
    subst c6_
    refine lv_tableIn (off := 105) (tgt := 111) hx hb dX12_count_6 (by decide) (by decide) (by decide) (by decide) ?_
    refine lv_aload_n hx hb dX12_count_111 rfl (lv_at hl 0 rfl) ?_
    refine va_get (D := (dC, dI)) (ci := 12) (v := .ref (b 2)) (C := RX12) (T := TX12) (N := 59) hx hb hts i_X12_count_X12 hown hK hP 0 rfl rfl 3 (by decide) (hts _ m_X12_count_1) (fun _ h9 => h9) rfl dX12_count_112 ?_
    refine lv_sipush (v := 3307) hx hb dX12_count_115 (by decide) ?_
    refine va_iald hx hb hK hP 2 0 rfl rfl (show ¬ ((3307 : Int32) < 0 ∨ 3408 ≤ Int32.toNatClampNeg 3307) by decide) dX12_count_118 ?_
    refine tk_i 0 (by rfl) ?_
    exact W.iret (v := 0) hx hb hr (fun t ht hW => ⟨⟨0, (), rfl, Or.inr (Or.inr (Or.inr (Or.inr (Or.inr (Or.inl (⟨rfl, rfl⟩)))))), trivial⟩, hS.F ht⟩) hS.2.2 dX12_count_119
  by_cases c7_ : p0 = 6
  · skip
    subst c7_
    refine lv_tableIn (off := 114) (tgt := 120) hx hb dX12_count_6 (by decide) (by decide) (by decide) (by decide) ?_
    refine lv_aload_n hx hb dX12_count_120 rfl (lv_at hl 0 rfl) ?_
    refine va_get (D := (dC, dI)) (ci := 12) (v := .ref (b 2)) (C := RX12) (T := TX12) (N := 59) hx hb hts i_X12_count_X12 hown hK hP 0 rfl rfl 3 (by decide) (hts _ m_X12_count_1) (fun _ h9 => h9) rfl dX12_count_121 ?_
    refine lv_sipush (v := 3308) hx hb dX12_count_124 (by decide) ?_
    refine va_iald hx hb hK hP 2 0 rfl rfl (show ¬ ((3308 : Int32) < 0 ∨ 3408 ≤ Int32.toNatClampNeg 3308) by decide) dX12_count_127 ?_
    refine tk_i 0 (by rfl) ?_
    exact W.iret (v := 0) hx hb hr (fun t ht hW => ⟨⟨0, (), rfl, Or.inr (Or.inr (Or.inr (Or.inr (Or.inr (Or.inr (Or.inl (⟨rfl, rfl⟩))))))), trivial⟩, hS.F ht⟩) hS.2.2 dX12_count_128
  by_cases c8_ : p0 = 7
  · skip
    subst c8_
    refine lv_tableIn (off := 123) (tgt := 129) hx hb dX12_count_6 (by decide) (by decide) (by decide) (by decide) ?_
    refine lv_aload_n hx hb dX12_count_129 rfl (lv_at hl 0 rfl) ?_
    refine va_get (D := (dC, dI)) (ci := 12) (v := .ref (b 2)) (C := RX12) (T := TX12) (N := 59) hx hb hts i_X12_count_X12 hown hK hP 0 rfl rfl 3 (by decide) (hts _ m_X12_count_1) (fun _ h9 => h9) rfl dX12_count_130 ?_
    refine lv_sipush (v := 3309) hx hb dX12_count_133 (by decide) ?_
    refine va_iald hx hb hK hP 2 0 rfl rfl (show ¬ ((3309 : Int32) < 0 ∨ 3408 ≤ Int32.toNatClampNeg 3309) by decide) dX12_count_136 ?_
    refine tk_i 0 (by rfl) ?_
    exact W.iret (v := 0) hx hb hr (fun t ht hW => ⟨⟨0, (), rfl, Or.inr (Or.inr (Or.inr (Or.inr (Or.inr (Or.inr (Or.inr (Or.inl (⟨rfl, rfl⟩)))))))), trivial⟩, hS.F ht⟩) hS.2.2 dX12_count_137
  by_cases c9_ : p0 = 8
  · skip
    subst c9_
    refine lv_tableIn (off := 132) (tgt := 138) hx hb dX12_count_6 (by decide) (by decide) (by decide) (by decide) ?_
    refine lv_aload_n hx hb dX12_count_138 rfl (lv_at hl 0 rfl) ?_
    refine va_get (D := (dC, dI)) (ci := 12) (v := .ref (b 2)) (C := RX12) (T := TX12) (N := 59) hx hb hts i_X12_count_X12 hown hK hP 0 rfl rfl 3 (by decide) (hts _ m_X12_count_1) (fun _ h9 => h9) rfl dX12_count_139 ?_
    refine lv_sipush (v := 3265) hx hb dX12_count_142 (by decide) ?_
    refine va_iald hx hb hK hP 2 0 rfl rfl (show ¬ ((3265 : Int32) < 0 ∨ 3408 ≤ Int32.toNatClampNeg 3265) by decide) dX12_count_145 ?_
    refine tk_i 0 (by rfl) ?_
    exact W.iret (v := 0) hx hb hr (fun t ht hW => ⟨⟨0, (), rfl, Or.inr (Or.inr (Or.inr (Or.inr (Or.inr (Or.inr (Or.inr (Or.inr (Or.inl (⟨rfl, rfl⟩))))))))), trivial⟩, hS.F ht⟩) hS.2.2 dX12_count_146
  by_cases c10_ : p0 = 9
  · skip
    subst c10_
    refine lv_tableIn (off := 141) (tgt := 147) hx hb dX12_count_6 (by decide) (by decide) (by decide) (by decide) ?_
    refine lv_aload_n hx hb dX12_count_147 rfl (lv_at hl 0 rfl) ?_
    refine va_get (D := (dC, dI)) (ci := 12) (v := .ref (b 2)) (C := RX12) (T := TX12) (N := 59) hx hb hts i_X12_count_X12 hown hK hP 0 rfl rfl 3 (by decide) (hts _ m_X12_count_1) (fun _ h9 => h9) rfl dX12_count_148 ?_
    refine lv_sipush (v := 3310) hx hb dX12_count_151 (by decide) ?_
    refine va_iald hx hb hK hP 2 0 rfl rfl (show ¬ ((3310 : Int32) < 0 ∨ 3408 ≤ Int32.toNatClampNeg 3310) by decide) dX12_count_154 ?_
    refine tk_i 0 (by rfl) ?_
    exact W.iret (v := 0) hx hb hr (fun t ht hW => ⟨⟨0, (), rfl, Or.inr (Or.inr (Or.inr (Or.inr (Or.inr (Or.inr (Or.inr (Or.inr (Or.inr (Or.inl (⟨rfl, rfl⟩)))))))))), trivial⟩, hS.F ht⟩) hS.2.2 dX12_count_155
  by_cases c11_ : p0 = 10
  · skip
    subst c11_
    refine lv_tableIn (off := 150) (tgt := 156) hx hb dX12_count_6 (by decide) (by decide) (by decide) (by decide) ?_
    refine lv_aload_n hx hb dX12_count_156 rfl (lv_at hl 0 rfl) ?_
    refine va_get (D := (dC, dI)) (ci := 12) (v := .ref (b 2)) (C := RX12) (T := TX12) (N := 59) hx hb hts i_X12_count_X12 hown hK hP 0 rfl rfl 3 (by decide) (hts _ m_X12_count_1) (fun _ h9 => h9) rfl dX12_count_157 ?_
    refine lv_sipush (v := 3343) hx hb dX12_count_160 (by decide) ?_
    refine va_iald hx hb hK hP 2 0 rfl rfl (show ¬ ((3343 : Int32) < 0 ∨ 3408 ≤ Int32.toNatClampNeg 3343) by decide) dX12_count_163 ?_
    refine tk_i 0 (by rfl) ?_
    exact W.iret (v := 0) hx hb hr (fun t ht hW => ⟨⟨0, (), rfl, Or.inr (Or.inr (Or.inr (Or.inr (Or.inr (Or.inr (Or.inr (Or.inr (Or.inr (Or.inr (Or.inl (⟨rfl, rfl⟩))))))))))), trivial⟩, hS.F ht⟩) hS.2.2 dX12_count_164
  by_cases c12_ : p0 = 11
  · skip
    subst c12_
    refine lv_tableIn (off := 159) (tgt := 165) hx hb dX12_count_6 (by decide) (by decide) (by decide) (by decide) ?_
    refine lv_aload_n hx hb dX12_count_165 rfl (lv_at hl 0 rfl) ?_
    refine va_get (D := (dC, dI)) (ci := 12) (v := .int 0) (C := RX12) (T := TX12) (N := 59) hx hb hts i_X12_count_X12 hown hK hP 0 rfl rfl 52 (by decide) (hts _ m_X12_count_2) (fun _ h9 => h9) rfl dX12_count_166 ?_
    exact W.iret (v := 0) hx hb hr (fun t ht hW => ⟨⟨0, (), rfl, Or.inr (Or.inr (Or.inr (Or.inr (Or.inr (Or.inr (Or.inr (Or.inr (Or.inr (Or.inr (Or.inr (Or.inl (⟨rfl, rfl⟩)))))))))))), trivial⟩, hS.F ht⟩) hS.2.2 dX12_count_169
  by_cases c13_ : p0 = 12
  · skip
    subst c13_
    refine lv_tableIn (off := 164) (tgt := 170) hx hb dX12_count_6 (by decide) (by decide) (by decide) (by decide) ?_
    refine lv_aload_n hx hb dX12_count_170 rfl (lv_at hl 0 rfl) ?_
    refine va_get (D := (dC, dI)) (ci := 12) (v := .int 0) (C := RX12) (T := TX12) (N := 59) hx hb hts i_X12_count_X12 hown hK hP 0 rfl rfl 6 (by decide) (hts _ m_X12_count_3) (fun _ h9 => h9) rfl dX12_count_171 ?_
    exact W.iret (v := 0) hx hb hr (fun t ht hW => ⟨⟨0, (), rfl, Or.inr (Or.inr (Or.inr (Or.inr (Or.inr (Or.inr (Or.inr (Or.inr (Or.inr (Or.inr (Or.inr (Or.inr (Or.inl (⟨rfl, rfl⟩))))))))))))), trivial⟩, hS.F ht⟩) hS.2.2 dX12_count_174
  by_cases c14_ : p0 = 13
  · skip
    subst c14_
    refine lv_tableIn (off := 169) (tgt := 175) hx hb dX12_count_6 (by decide) (by decide) (by decide) (by decide) ?_
    refine lv_aload_n hx hb dX12_count_175 rfl (lv_at hl 0 rfl) ?_
    refine va_get (D := (dC, dI)) (ci := 12) (v := .int 0) (C := RX12) (T := TX12) (N := 59) hx hb hts i_X12_count_X12 hown hK hP 0 rfl rfl 9 (by decide) (hts _ m_X12_count_4) (fun _ h9 => h9) rfl dX12_count_176 ?_
    exact W.iret (v := 0) hx hb hr (fun t ht hW => ⟨⟨0, (), rfl, Or.inr (Or.inr (Or.inr (Or.inr (Or.inr (Or.inr (Or.inr (Or.inr (Or.inr (Or.inr (Or.inr (Or.inr (Or.inr (Or.inl (⟨rfl, rfl⟩)))))))))))))), trivial⟩, hS.F ht⟩) hS.2.2 dX12_count_179
  have e15_ : p0.toInt < 0 ∨ 13 < p0.toInt := by
    have z0_ := tz_neq_r c1_ (show (0 : Int32).toInt = 0 by decide)
    have z1_ := tz_neq_r c2_ (show (1 : Int32).toInt = 1 by decide)
    have z2_ := tz_neq_r c3_ (show (2 : Int32).toInt = 2 by decide)
    have z3_ := tz_neq_r c4_ (show (3 : Int32).toInt = 3 by decide)
    have z4_ := tz_neq_r c5_ (show (4 : Int32).toInt = 4 by decide)
    have z5_ := tz_neq_r c6_ (show (5 : Int32).toInt = 5 by decide)
    have z6_ := tz_neq_r c7_ (show (6 : Int32).toInt = 6 by decide)
    have z7_ := tz_neq_r c8_ (show (7 : Int32).toInt = 7 by decide)
    have z8_ := tz_neq_r c9_ (show (8 : Int32).toInt = 8 by decide)
    have z9_ := tz_neq_r c10_ (show (9 : Int32).toInt = 9 by decide)
    have z10_ := tz_neq_r c11_ (show (10 : Int32).toInt = 10 by decide)
    have z11_ := tz_neq_r c12_ (show (11 : Int32).toInt = 11 by decide)
    have z12_ := tz_neq_r c13_ (show (12 : Int32).toInt = 12 by decide)
    have z13_ := tz_neq_r c14_ (show (13 : Int32).toInt = 13 by decide)
    omega
  refine lv_tableOut (tgt := 180) hx hb dX12_count_6 e15_ (by decide) ?_
  refine lv_iload_n hx hb dX12_count_180 rfl (lv_at hl 1 rfl) ?_
  refine lv_i2l (v := Int32.toInt64 p0) hx hb dX12_count_181 rfl ?_
  refine lv_ldc2 (v := 14) hx hb hown (hts _ m_X12_count_5) dX12_count_182 ?_
  refine tk_l (Int32.toInt64 14) (by decide) ?_
  refine lv_ldc2 (v := 20) hx hb hown (hts _ m_X12_count_6) dX12_count_185 ?_
  refine tk_l (Int32.toInt64 20) (by decide) ?_
  refine tk_pi (va_runS (As := [.long (Int32.toInt64 p0), .long (Int32.toInt64 14), .long (Int32.toInt64 20)]) (rest := []) ⟨hx, hb, hml, hown, hts⟩ (c_X12_in l dC dI cy  p0 14 20) (va_cwS 3 hts g_X12_count_X12_in_128 rfl rfl rfl (by decide +kernel) ⟨Nat.le_of_ble_eq_true rfl, Nat.le_of_ble_eq_true rfl⟩) (pS_pp hC va_P0) rfl rfl hl.1 rfl (lv_room (Nat.le_of_ble_eq_true rfl)) dX12_count_188 ⟨Nat.le_of_ble_eq_true rfl, Nat.le_of_ble_eq_true rfl⟩) hP hS (fun r_ H locs hw hP hS => ?_)
  rcases hw with ⟨c16_, rfl⟩ | ⟨c17_, c18_, rfl⟩ | ⟨c19_, c20_, rfl⟩
  · skip
    refine lv_if_eq (tgt := 206) hx hb dX12_count_191 (by decide) (fun _ => ?_) (fun c9_ => absurd (by decide) c9_)
    refine lv_iconst (v := (-1)) hx hb dX12_count_206 (by decide) ?_
    exact W.iret (v := (-1)) hx hb hr (fun t ht hW => ⟨⟨(-1), (), rfl, Or.inr (Or.inr (Or.inr (Or.inr (Or.inr (Or.inr (Or.inr (Or.inr (Or.inr (Or.inr (Or.inr (Or.inr (Or.inr (Or.inr (Or.inl (⟨c1_, c2_, c3_, c4_, c5_, c6_, c7_, c8_, c9_, c10_, c11_, c12_, c13_, c14_, c16_, rfl⟩))))))))))))))), trivial⟩, hS.F ht⟩) hS.2.2 dX12_count_207
  · skip
    refine lv_if_eq (tgt := 206) hx hb dX12_count_191 (by decide) (fun _ => ?_) (fun c9_ => absurd (by decide) c9_)
    refine lv_iconst (v := (-1)) hx hb dX12_count_206 (by decide) ?_
    exact W.iret (v := (-1)) hx hb hr (fun t ht hW => ⟨⟨(-1), (), rfl, Or.inr (Or.inr (Or.inr (Or.inr (Or.inr (Or.inr (Or.inr (Or.inr (Or.inr (Or.inr (Or.inr (Or.inr (Or.inr (Or.inr (Or.inr (Or.inl (⟨c1_, c2_, c3_, c4_, c5_, c6_, c7_, c8_, c9_, c10_, c11_, c12_, c13_, c14_, c17_, c18_, rfl⟩)))))))))))))))), trivial⟩, hS.F ht⟩) hS.2.2 dX12_count_207
  · skip
    refine lv_if_eq (tgt := 206) hx hb dX12_count_191 (by decide) (fun c9_ => absurd c9_ (by decide)) (fun _ => ?_)
    refine lv_aload_n hx hb dX12_count_194 rfl (lv_at hl 0 rfl) ?_
    refine va_get (D := (dC, dI)) (ci := 12) (v := .ref (b 1)) (C := RX12) (T := TX12) (N := 59) hx hb hts i_X12_count_X12 hown hK hP 0 rfl rfl 2 (by decide) (hts _ m_X12_count_7) (fun _ h9 => h9) rfl dX12_count_195 ?_
    refine lv_iload_n hx hb dX12_count_198 rfl (lv_at hl 1 rfl) ?_
    refine lv_bipush (v := 13) hx hb dX12_count_199 (by decide) ?_
    refine lv_isub hx hb dX12_count_201 ?_
    refine va_iald hx hb hK hP 1 0 rfl rfl (sub_in (show (13 : Int32).toInt = 13 by decide) (by decide) (by have z0_ := tz_neq_r c1_ (show (0 : Int32).toInt = 0 by decide); have z1_ := tz_neq_r c2_ (show (1 : Int32).toInt = 1 by decide); have z2_ := tz_neq_r c3_ (show (2 : Int32).toInt = 2 by decide); have z3_ := tz_neq_r c4_ (show (3 : Int32).toInt = 3 by decide); have z4_ := tz_neq_r c5_ (show (4 : Int32).toInt = 4 by decide); have z5_ := tz_neq_r c6_ (show (5 : Int32).toInt = 5 by decide); have z6_ := tz_neq_r c7_ (show (6 : Int32).toInt = 6 by decide); have z7_ := tz_neq_r c8_ (show (7 : Int32).toInt = 7 by decide); have z8_ := tz_neq_r c9_ (show (8 : Int32).toInt = 8 by decide); have z9_ := tz_neq_r c10_ (show (9 : Int32).toInt = 9 by decide); have z10_ := tz_neq_r c11_ (show (10 : Int32).toInt = 10 by decide); have z11_ := tz_neq_r c12_ (show (11 : Int32).toInt = 11 by decide); have z12_ := tz_neq_r c13_ (show (12 : Int32).toInt = 12 by decide); have z13_ := tz_neq_r c14_ (show (13 : Int32).toInt = 13 by decide); have z14_ := tz_nlt_r c19_ (show (14 : Int32).toInt = 14 by decide); have z15_ := tz_nlt_l c20_ (show (20 : Int32).toInt = 20 by decide); omega) (by have z0_ := tz_neq_r c1_ (show (0 : Int32).toInt = 0 by decide); have z1_ := tz_neq_r c2_ (show (1 : Int32).toInt = 1 by decide); have z2_ := tz_neq_r c3_ (show (2 : Int32).toInt = 2 by decide); have z3_ := tz_neq_r c4_ (show (3 : Int32).toInt = 3 by decide); have z4_ := tz_neq_r c5_ (show (4 : Int32).toInt = 4 by decide); have z5_ := tz_neq_r c6_ (show (5 : Int32).toInt = 5 by decide); have z6_ := tz_neq_r c7_ (show (6 : Int32).toInt = 6 by decide); have z7_ := tz_neq_r c8_ (show (7 : Int32).toInt = 7 by decide); have z8_ := tz_neq_r c9_ (show (8 : Int32).toInt = 8 by decide); have z9_ := tz_neq_r c10_ (show (9 : Int32).toInt = 9 by decide); have z10_ := tz_neq_r c11_ (show (10 : Int32).toInt = 10 by decide); have z11_ := tz_neq_r c12_ (show (11 : Int32).toInt = 11 by decide); have z12_ := tz_neq_r c13_ (show (12 : Int32).toInt = 12 by decide); have z13_ := tz_neq_r c14_ (show (13 : Int32).toInt = 13 by decide); have z14_ := tz_nlt_r c19_ (show (14 : Int32).toInt = 14 by decide); have z15_ := tz_nlt_l c20_ (show (20 : Int32).toInt = 20 by decide); omega)) dX12_count_202 ?_
    refine tk_i 0 (by rfl) ?_
    refine lv_goto (tgt := 207) hx hb dX12_count_203 (by decide) ?_
    exact W.iret (v := 0) hx hb hr (fun t ht hW => ⟨⟨0, (), rfl, Or.inr (Or.inr (Or.inr (Or.inr (Or.inr (Or.inr (Or.inr (Or.inr (Or.inr (Or.inr (Or.inr (Or.inr (Or.inr (Or.inr (Or.inr (Or.inr (⟨c1_, c2_, c3_, c4_, c5_, c6_, c7_, c8_, c9_, c10_, c11_, c12_, c13_, c14_, c19_, c20_, rfl⟩)))))))))))))))), trivial⟩, hS.F ht⟩) hS.2.2 dX12_count_207

theorem dX12_end_0 : decode cX12_end 0 = .ok (.aload_n 0, 1) := by decide +kernel
theorem dX12_end_1 : decode cX12_end 1 = .ok (.iconst 0, 1) := by decide +kernel
theorem dX12_end_2 : decode cX12_end 2 = .ok (.putfield 105, 3) := by decide +kernel
theorem dX12_end_5 : decode cX12_end 5 = .ok (.iload_n 1, 1) := by decide +kernel
theorem dX12_end_6 : decode cX12_end 6 = .ok (.ifCond .lt 11, 3) := by decide +kernel
theorem dX12_end_9 : decode cX12_end 9 = .ok (.iload_n 1, 1) := by decide +kernel
theorem dX12_end_10 : decode cX12_end 10 = .ok (.aload_n 0, 1) := by decide +kernel
theorem dX12_end_11 : decode cX12_end 11 = .ok (.getfield 153, 3) := by decide +kernel
theorem dX12_end_14 : decode cX12_end 14 = .ok (.if_icmp .le 5, 3) := by decide +kernel
theorem dX12_end_17 : decode cX12_end 17 = .ok (.iconst (-1), 1) := by decide +kernel
theorem dX12_end_18 : decode cX12_end 18 = .ok (.ireturn, 1) := by decide +kernel
theorem dX12_end_19 : decode cX12_end 19 = .ok (.aload_n 0, 1) := by decide +kernel
theorem dX12_end_20 : decode cX12_end 20 = .ok (.iload_n 1, 1) := by decide +kernel
theorem dX12_end_21 : decode cX12_end 21 = .ok (.putfield 153, 3) := by decide +kernel
theorem dX12_end_24 : decode cX12_end 24 = .ok (.iload_n 1, 1) := by decide +kernel
theorem dX12_end_25 : decode cX12_end 25 = .ok (.ireturn, 1) := by decide +kernel
def v_X12_end : List Cond := .code yX12_end cX12_end 2 (some .int) :: ([.fieldLink RX12 105 "RestBoardModel" "thrown" "I", .fieldLink RX12 153 "RestBoardModel" "taped" "I"] ++ wsX120)
theorem m_X12_end_0 : (.fieldLink RX12 105 "RestBoardModel" "thrown" "I" : Cond) ∈ v_X12_end := List.mem_of_getElem? (i := 1) (by decide +kernel)
theorem m_X12_end_1 : (.fieldLink RX12 153 "RestBoardModel" "taped" "I" : Cond) ∈ v_X12_end := List.mem_of_getElem? (i := 2) (by decide +kernel)
theorem i_X12_end_X12 : ∀ w ∈ u_ws RX12 TX12 59, w ∈ v_X12_end := fun w h => List.mem_cons_of_mem _ (List.mem_append_right _ h)
set_option maxHeartbeats 4000000 in
set_option maxRecDepth 100000 in
theorem c_X12_end (l : Launch) (dC : Nat → ClassId) (dI : Nat → Nat → Nat) (cy : Nat → ClassId) (b : Nat → Nat) (sz : Nat) (p0 : Int32) : Met l yX12_end v_X12_end ({ frames := 0, cells := 0, slots := 0, locals := 0 }) (va_Pc [.ref (b 0), .int p0] (ps dC dI cy (mw b cy) sz)) (va_Qi (fun (r : Int32) (_ : Unit) => ((p0 < 0) ∧ r = (-1)) ∨ ((p0 = 0) ∧ r = 0) ∨ ((¬ p0 < 0) ∧ (¬ p0 ≤ 0) ∧ r = (-1))) (fun _ _ => True) (va_A (mw b cy) sz)) 0 0 (va_A (mw b cy) sz) := by
  refine Met.ofW (cc := cX12_end) (maxL := 2) (ret := (some .int)) (by decide) rfl ?_
  intro p e s m args below meth c s₁ B hml hv
  obtain ⟨rfl, hsz, hP, hC, hD0⟩ := hv
  have hK := hC.1
  have hx := B.exec
  have hb := B.bytes
  have hr := B.returns
  have hts := atoms_spec (ws := v_X12_end) B.pre
  have hown : s.vm.findClass RX12 = some m.cls := findClass_of_methodNamed B.named
  have hlocks := B.notSynchronized
  subst hsz
  have hD := hD0.self (sz := s.heap.size)
  generalize hAe : va_A (mw b cy) s.heap.size = A at hD ⊢
  have hA : ∀ q : Nat, s.heap.size ≤ q → A q := fun q h => by rw [← hAe]; exact Or.inr h
  have hS : va_S A s.heap s.heap [] := va_S.rf
  have hl := lv_entry ([.ref (b 0), .int p0]) (n := 2) (Nat.le_of_ble_eq_true rfl)
  rw [lg_entry_eq]
  generalize (lg_sl ([.ref (b 0), .int p0]) ++ List.replicate (2 - (lg_sl ([.ref (b 0), .int p0])).length) Slot.unset).toArray = ls at hl ⊢
  have hl : lv_has ls 2 [(0, .ref (b 0)), (1, .int p0)] := hl
  refine lv_aload_n hx hb dX12_end_0 rfl (lv_at hl 0 rfl) ?_
  refine lv_iconst (v := 0) hx hb dX12_end_1 (by decide) ?_
  refine va_put (D := (dC, dI)) (ci := 12) (v := .int 0) (ty := .int) (C := RX12) (T := TX12) (N := 59) hx hb hts i_X12_end_X12 tyX12 tyX12_ok nmX12 hown hK hP hD hS 0 rfl rfl 0 (by decide) (hts _ m_X12_end_0) (fun _ h9 => h9) rfl (by decide +kernel) rfl rfl (Nat.le_of_ble_eq_true rfl) dX12_end_2 (fun H locs hP hD hS => ?_)
  have hP : va_P (dC, dI) vwCl (mw b cy) H := hP
  have hD : va_D A (mw b cy) := hD
  refine lv_iload_n hx hb dX12_end_5 rfl (lv_at hl 1 rfl) ?_
  refine lv_if_lt (tgt := 17) hx hb dX12_end_6 (by decide) (fun c1_ => ?_) (fun c1_ => ?_)
  · skip
    refine lv_iconst (v := (-1)) hx hb dX12_end_17 (by decide) ?_
    exact W.iret (v := (-1)) hx hb hr (fun t ht hW => ⟨⟨(-1), (), rfl, Or.inl (⟨c1_, rfl⟩), trivial⟩, hS.F ht⟩) hS.2.2 dX12_end_18
  · skip
    refine lv_iload_n hx hb dX12_end_9 rfl (lv_at hl 1 rfl) ?_
    refine lv_aload_n hx hb dX12_end_10 rfl (lv_at hl 0 rfl) ?_
    refine va_get (D := (dC, dI)) (ci := 12) (v := .int 0) (C := RX12) (T := TX12) (N := 59) hx hb hts i_X12_end_X12 hown hK hP 0 rfl rfl 9 (by decide) (hts _ m_X12_end_1) (fun _ h9 => h9) rfl dX12_end_11 ?_
    refine lv_icmp_le (tgt := 19) hx hb dX12_end_14 (by decide) (fun c2_ => ?_) (fun c2_ => ?_)
    · skip
      have e3_ : p0 = 0 := by
        have z0_ := tz_nlt_r c1_ (show (0 : Int32).toInt = 0 by decide)
        have z1_ := tz_le_r c2_ (show (0 : Int32).toInt = 0 by decide)
        exact tz_pin (show (0 : Int32).toInt = 0 by decide) (by omega)
      subst e3_
      refine lv_aload_n hx hb dX12_end_19 rfl (lv_at hl 0 rfl) ?_
      refine lv_iload_n hx hb dX12_end_20 rfl (lv_at hl 1 rfl) ?_
      refine va_put (D := (dC, dI)) (ci := 12) (v := .int 0) (ty := .int) (C := RX12) (T := TX12) (N := 59) hx hb hts i_X12_end_X12 tyX12 tyX12_ok nmX12 hown hK hP hD hS 0 rfl rfl 9 (by decide) (hts _ m_X12_end_1) (fun _ h9 => h9) rfl (by decide +kernel) rfl rfl (Nat.le_of_ble_eq_true rfl) dX12_end_21 (fun H locs hP hD hS => ?_)
      have hP : va_P (dC, dI) vwCl (mw b cy) H := hP
      have hD : va_D A (mw b cy) := hD
      refine lv_iload_n hx hb dX12_end_24 rfl (lv_at hl 1 rfl) ?_
      exact W.iret (v := 0) hx hb hr (fun t ht hW => ⟨⟨0, (), rfl, Or.inr (Or.inl (⟨rfl, rfl⟩)), trivial⟩, hS.F ht⟩) hS.2.2 dX12_end_25
    · skip
      refine lv_iconst (v := (-1)) hx hb dX12_end_17 (by decide) ?_
      exact W.iret (v := (-1)) hx hb hr (fun t ht hW => ⟨⟨(-1), (), rfl, Or.inr (Or.inr (⟨c1_, c2_, rfl⟩)), trivial⟩, hS.F ht⟩) hS.2.2 dX12_end_18

