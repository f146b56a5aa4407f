theorem dJ7_fill_53178_0 : decode cJ7_fill_53178 0 = .ok (.iconst 0, 1) := by decide +kernel
theorem dJ7_fill_53178_1 : decode cJ7_fill_53178 1 = .ok (.istore_n 2, 1) := by decide +kernel
theorem dJ7_fill_53178_2 : decode cJ7_fill_53178 2 = .ok (.aload_n 0, 1) := by decide +kernel
theorem dJ7_fill_53178_3 : decode cJ7_fill_53178 3 = .ok (.arraylength, 1) := by decide +kernel
theorem dJ7_fill_53178_4 : decode cJ7_fill_53178 4 = .ok (.istore_n 3, 1) := by decide +kernel
theorem dJ7_fill_53178_5 : decode cJ7_fill_53178 5 = .ok (.iload_n 2, 1) := by decide +kernel
theorem dJ7_fill_53178_6 : decode cJ7_fill_53178 6 = .ok (.iload_n 3, 1) := by decide +kernel
theorem dJ7_fill_53178_7 : decode cJ7_fill_53178 7 = .ok (.if_icmp .ge 13, 3) := by decide +kernel
theorem dJ7_fill_53178_10 : decode cJ7_fill_53178 10 = .ok (.aload_n 0, 1) := by decide +kernel
theorem dJ7_fill_53178_11 : decode cJ7_fill_53178 11 = .ok (.iload_n 2, 1) := by decide +kernel
theorem dJ7_fill_53178_12 : decode cJ7_fill_53178 12 = .ok (.iload_n 1, 1) := by decide +kernel
theorem dJ7_fill_53178_13 : decode cJ7_fill_53178 13 = .ok (.iastore, 1) := by decide +kernel
theorem dJ7_fill_53178_14 : decode cJ7_fill_53178 14 = .ok (.iinc 2 1, 3) := by decide +kernel
theorem dJ7_fill_53178_17 : decode cJ7_fill_53178 17 = .ok (.goto (-12), 3) := by decide +kernel
theorem dJ7_fill_53178_20 : decode cJ7_fill_53178 20 = .ok (.return_, 1) := by decide +kernel
def v_J7_fill_53178 : List Cond := .code yJ7_fill_53178 cJ7_fill_53178 4 none :: ([])
theorem va_P1i {D : va_G} {cl : List vw_C} {H : Heap} {x : Nat} {cA : ClassId} {n : Nat} {f g : Nat → Int32} (h : va_P D cl [(x, .inl (cA, n, .inl f))] H) (hfg : ∀ j, j < n → f j = g j) : va_P D cl [(x, .inl (cA, n, .inl g))] H := by
  intro k q hk
  have h0 : H[x]? = some (vp_cell cA (n, .inl f)) := h 0 _ rfl
  have hz : k < 1 := (List.getElem?_eq_some_iff.mp hk).1
  rw [show k = 0 by omega] at hk
  cases hk
  show H[x]? = some (vp_cell cA (n, .inl g))
  rw [h0]
  have e : (fun j : Fin n => Value.int (f j.val)) = fun j : Fin n => Value.int (g j.val) := funext fun j => by rw [hfg j.val j.isLt]
  exact congrArg (fun z : Fin n → Value => some ({ cls := cA, slots := Array.ofFn z, vm := .none } : Cell)) e
theorem fill_loop {p : Program} {l : Launch} {e : Env} {R : Room} {s : State} {m : MethodId} {args : Array Value} {below : List Frame} {meth : Method} {c : Code} {Q : State → Prop} {A : Nat → Prop} {dC : Nat → ClassId} {dI : Nat → Nat → Nat} {cy : Nat → ClassId} {x n : Nat} {v : Int32} (hn : n < 2 ^ 31) (hx : p.tables.exec = Jvm.exec) (hb : c.code = cJ7_fill_53178) (hK : va_K (dC, dI) vwCl (ft cy) s)
    (kend : ∀ (H : Heap) (locs : List Loc) (g : Nat → Int32) (ls : Array Slot), (∀ j, j < n → g j = v) → va_P (dC, dI) vwCl [(x, .inl (cy 0, n, .inl g))] H → va_D A [(x, .inl (cy 0, n, .inl g))] → va_S A s.heap H locs → W p l e R s m args below meth c H locs 0 0 Q (F0 m 20 ls [])) :
    ∀ (k i : Nat), i ≤ n → n - i < k → ∀ (H : Heap) (locs : List Loc) (g : Nat → Int32) (ls : Array Slot), (∀ j, j < i → g j = v) → va_P (dC, dI) vwCl [(x, .inl (cy 0, n, .inl g))] H → va_D A [(x, .inl (cy 0, n, .inl g))] → va_S A s.heap H locs → lv_has ls 4 [(2, .int (nI i)), (3, .int (nI n)), (0, .ref x), (1, .int v)] → W p l e R s m args below meth c H locs 0 0 Q (F0 m 5 ls []) := by
  intro k
  induction k with
  | zero => intro i _ h; exact absurd h (Nat.not_lt_zero _)
  | succ k ih =>
    intro i hi hk H locs g ls hg hP hD hS hl
    refine lv_iload_n hx hb dJ7_fill_53178_5 rfl (lv_at hl 0 rfl) ?_
    refine lv_iload_n hx hb dJ7_fill_53178_6 rfl (lv_at hl 1 rfl) ?_
    refine lv_icmp_ge (tgt := 20) hx hb dJ7_fill_53178_7 (by decide) (fun c1 => ?_) (fun c1 => ?_)
    · have e : n ≤ i := (nI_leI hn (by omega)).mp c1
      exact kend H locs g ls (fun j hj => hg j (by omega)) hP hD hS
    · have e : i < n := Nat.lt_of_not_le (fun q => c1 ((nI_leI hn (by omega)).mpr q))
      refine lv_aload_n hx hb dJ7_fill_53178_10 rfl (lv_at hl 2 rfl) ?_
      refine lv_iload_n hx hb dJ7_fill_53178_11 rfl (lv_at hl 0 rfl) ?_
      refine lv_iload_n hx hb dJ7_fill_53178_12 rfl (lv_at hl 3 rfl) ?_
      refine va_iast hx hb hK hP hD hS 0 0 rfl rfl (vp_in_nI e hn) dJ7_fill_53178_13 (fun H locs hP hD hS => ?_)
      refine lv_iinc (v := nI (i + 1)) (lv' := [(2, .int (nI (i + 1))), (3, .int (nI n)), (0, .ref x), (1, .int v)]) hx hb dJ7_fill_53178_14 hl (k := 0) rfl (nI_1 i) (by decide) rfl (fun ls hl => ?_)
      refine lv_goto (tgt := 5) hx hb dJ7_fill_53178_17 (by decide) ?_
      refine ih (i + 1) (by omega) (by omega) H locs (upd g (nI i).toNatClampNeg v) ls (fun j hj => ?_) hP hD hS hl
      rw [nI_clamp (by omega)]
      by_cases q : j = i
      · subst q
        simp [upd]
      · simp only [upd, q, if_false]
        exact hg j (by omega)
set_option maxHeartbeats 4000000 in
set_option maxRecDepth 100000 in
theorem c_J7_fill_53178 (l : Launch) (dC : Nat → ClassId) (dI : Nat → Nat → Nat) (cy : Nat → ClassId) (x n : Nat) (f : Nat → Int32) (sz : Nat) (v : Int32) (hn : n < 2 ^ 31) : Met l yJ7_fill_53178 v_J7_fill_53178 ({ frames := 0, cells := 0, slots := 0, locals := 0 }) (va_Pc [.ref x, .int v] (ps dC dI cy ([(x, .inl (cy 0, n, .inl f))]) sz)) (va_Qv (fun (_ : uS) => True) (fun (_ : uS) (t : State) => va_P (dC, dI) vwCl ([(x, .inl (cy 0, n, .inl (fun _ => v)))]) t.heap ∧ va_D (va_A ([(x, .inl (cy 0, n, .inl f))]) sz) ([(x, .inl (cy 0, n, .inl (fun _ => v)))])) (va_A ([(x, .inl (cy 0, n, .inl f))]) sz)) 0 0 (va_A ([(x, .inl (cy 0, n, .inl f))]) sz) := by
  refine Met.ofW (cc := cJ7_fill_53178) (maxL := 4) (ret := none) (by decide) rfl ?_
  intro p e s m args below meth c s₁ B hml hv
  obtain ⟨rfl, hsz, hP, hC, hD0⟩ := hv
  have hK := hC.1
  have hx := B.exec
  have hb := B.bytes
  have hr := B.returns
  have hlocks := B.notSynchronized
  subst hsz
  have hD := hD0.self (sz := s.heap.size)
  generalize hAe : va_A ([(x, .inl (cy 0, n, .inl f))]) s.heap.size = A at hD ⊢
  have hS : va_S A s.heap s.heap [] := va_S.rf
  have hl := lv_entry ([.ref x, .int v]) (n := 4) (Nat.le_of_ble_eq_true rfl)
  rw [lg_entry_eq]
  generalize (lg_sl ([.ref x, .int v]) ++ List.replicate (4 - (lg_sl ([.ref x, .int v])).length) Slot.unset).toArray = ls at hl ⊢
  have hl : lv_has ls 4 [(0, .ref x), (1, .int v)] := hl
  refine lv_iconst (v := 0) hx hb dJ7_fill_53178_0 (by decide) ?_
  refine lv_istore_n (lv' := [(2, .int 0), (0, .ref x), (1, .int v)]) hx hb dJ7_fill_53178_1 rfl hl (by decide) rfl (fun ls hl => ?_)
  refine lv_aload_n hx hb dJ7_fill_53178_2 rfl (lv_at hl 1 rfl) ?_
  refine va_alen hx hb hK hP 0 0 rfl rfl (v := nI n) rfl dJ7_fill_53178_3 ?_
  refine lv_istore_n (lv' := [(3, .int (nI n)), (2, .int 0), (0, .ref x), (1, .int v)]) hx hb dJ7_fill_53178_4 rfl hl (by decide) rfl (fun ls hl => ?_)
  refine fill_loop hn hx hb hK (fun H locs g ls hg hP hD hS => ?_) (n + 1) 0 (Nat.zero_le n) (by omega) s.heap [] f ls (fun j hj => absurd hj (Nat.not_lt_zero j)) hP hD hS (lv_sub hl [1, 0, 2, 3] rfl)
  have hP9 : va_P (dC, dI) vwCl ([(x, .inl (cy 0, n, .inl (fun _ => v)))]) H := va_P1i hP (fun j hj => hg j hj)
  have hD9 : va_D A ([(x, .inl (cy 0, n, .inl (fun _ => v)))]) := hD.set (p := 0) rfl
  exact W.vret hx hb hr (fun t ht hW => ⟨⟨((fun _ => 0, fun _ _ => 0, fun _ _ => none) : uS), rfl, trivial, (by rw [ht]; exact hP9), hD9⟩, hS.F ht⟩) hS.2.2 dJ7_fill_53178_20

theorem dX6_init_0 : decode cX6_init 0 = .ok (.aload_n 0, 1) := by decide +kernel
theorem dX6_init_1 : decode cX6_init 1 = .ok (.invokespecial 3, 3) := by decide +kernel
theorem dX6_init_4 : decode cX6_init 4 = .ok (.aload_n 0, 1) := by decide +kernel
theorem dX6_init_5 : decode cX6_init 5 = .ok (.bipush 40, 2) := by decide +kernel
theorem dX6_init_7 : decode cX6_init 7 = .ok (.newarray .int, 2) := by decide +kernel
theorem dX6_init_9 : decode cX6_init 9 = .ok (.putfield 9, 3) := by decide +kernel
theorem dX6_init_12 : decode cX6_init 12 = .ok (.return_, 1) := by decide +kernel
def v_X6_init : List Cond := .code yX6_init cX6_init 1 none :: ([.methodLink RX6 3 objectInit, .instanceMethod objectInit, .code objectInit ⟨#[0xb1]⟩ 1 none, .arrayClass .int, .fieldLink RX6 9 "RestBoard$Registers" "bytes" "[I"] ++ wsX60)
theorem m_X6_init_0 : (.methodLink RX6 3 objectInit : Cond) ∈ v_X6_init := List.mem_of_getElem? (i := 1) (by decide +kernel)
theorem m_X6_init_1 : (.instanceMethod objectInit : Cond) ∈ v_X6_init := List.mem_of_getElem? (i := 2) (by decide +kernel)
theorem m_X6_init_2 : (.code objectInit ⟨#[0xb1]⟩ 1 none : Cond) ∈ v_X6_init := List.mem_of_getElem? (i := 3) (by decide +kernel)
theorem m_X6_init_3 : (.arrayClass .int : Cond) ∈ v_X6_init := List.mem_of_getElem? (i := 4) (by decide +kernel)
theorem m_X6_init_4 : (.fieldLink RX6 9 "RestBoard$Registers" "bytes" "[I" : Cond) ∈ v_X6_init := List.mem_of_getElem? (i := 5) (by decide +kernel)
theorem i_X6_init_X6 : ∀ w ∈ u_ws RX6 TX6 4, w ∈ v_X6_init := fun w h => List.mem_cons_of_mem _ (List.mem_append_right _ h)
set_option maxHeartbeats 4000000 in
set_option maxRecDepth 100000 in
theorem c_X6_init (l : Launch) (dC : Nat → ClassId) (dI : Nat → Nat → Nat) (cy : Nat → ClassId) (h : Nat) (sz : Nat) : Met l yX6_init v_X6_init ({ frames := 1, cells := 1, slots := 40, locals := 12 }) (va_Pc [.ref h] (ps dC dI cy ([(h, .inr (6, [.null, .int 0, .int 0, .int 0]))]) sz)) (va_Qv (fun (_ : uS) => True) (fun (u : uS) (t : State) => va_P (dC, dI) vwCl ([(h, .inr (6, [.ref (u.1 0), .int 0, .int 0, .int 0])), (u.1 0, .inl (cy 0, 40, .inl (fun _ => 0)))]) t.heap ∧ va_D (va_A ([(h, .inr (6, [.null, .int 0, .int 0, .int 0]))]) sz) ([(h, .inr (6, [.ref (u.1 0), .int 0, .int 0, .int 0])), (u.1 0, .inl (cy 0, 40, .inl (fun _ => 0)))])) (va_A ([(h, .inr (6, [.null, .int 0, .int 0, .int 0]))]) sz)) 1 40 (va_A ([(h, .inr (6, [.null, .int 0, .int 0, .int 0]))]) sz) := by
  refine Met.ofW (cc := cX6_init) (maxL := 1) (ret := none) (by decide) rfl ?_
  intro p e s m args below meth c s₁ B hml hv
  obtain ⟨rfl, hsz, hP, hC, hD0⟩ := hv
  have hK := hC.1
  have hx := B.exec
  have hb := B.bytes
  have hr := B.returns
  have hts := atoms_spec (ws := v_X6_init) B.pre
  have hown : s.vm.findClass RX6 = some m.cls := findClass_of_methodNamed B.named
  have hlocks := B.notSynchronized
  have hin : meth.name = "<init>" := (name_of_methodNamed B.named B.method).1
  subst hsz
  have hD := hD0.self (sz := s.heap.size)
  generalize hAe : va_A ([(h, .inr (6, [.null, .int 0, .int 0, .int 0]))]) s.heap.size = A at hD ⊢
  have hA : ∀ q : Nat, s.heap.size ≤ q → A q := fun q h => by rw [← hAe]; exact Or.inr h
  have hS : va_S A s.heap s.heap [] := va_S.rf
  have hl := lv_entry ([.ref h]) (n := 1) (Nat.le_of_ble_eq_true rfl)
  rw [lg_entry_eq]
  generalize (lg_sl ([.ref h]) ++ List.replicate (1 - (lg_sl ([.ref h])).length) Slot.unset).toArray = ls at hl ⊢
  have hl : lv_has ls 1 [(0, .ref h)] := hl
  refine lv_aload_n hx hb dX6_init_0 rfl (lv_at hl 0 rfl) ?_
  refine W.objInit hx hb hown (hts _ m_X6_init_0) (hts _ m_X6_init_1) (hts _ m_X6_init_2) rfl (by rw [hml]; exact hl.1) rfl dX6_init_1 (Nat.le_of_ble_eq_true rfl) (Nat.le_of_ble_eq_true rfl) ?_
  refine W.eq (g2 := F0 m 4 ls []) rfl ?_
  refine lv_aload_n hx hb dX6_init_4 rfl (lv_at hl 0 rfl) ?_
  refine lv_bipush (v := 40) hx hb dX6_init_5 (by decide) ?_
  refine va_newa (atype := .int) (N' := 40) (a0 := (40, .inl (fun _ => 0))) hx hb (hts _ m_X6_init_3) rfl hK hP hD hS hA (fun _ => rfl) (by decide) (by decide) (by decide) (Nat.le_of_ble_eq_true rfl) (Nat.le_of_ble_eq_true rfl) dX6_init_7 (fun q1_ cA_ H hKn hP hD hS => ?_)
  obtain rfl := va_K.oneI hKn
  have hP : va_P (dC, dI) vwCl [(h, .inr (6, [.null, .int 0, .int 0, .int 0])), (q1_, .inl (cy 0, 40, .inl (fun _ => 0)))] H := hP
  have hD : va_D A [(h, .inr (6, [.null, .int 0, .int 0, .int 0])), (q1_, .inl (cy 0, 40, .inl (fun _ => 0)))] := hD
  refine va_putF (D := (dC, dI)) (ci := 6) (v := .ref q1_) (ty := .array .int) (C := RX6) (T := TX6) (N := 4) hx hb hts i_X6_init_X6 tyX6 tyX6_ok nmX6 hown hK hP hD hS 0 rfl rfl 0 (by decide) (hts _ m_X6_init_4) (fun _ h9 => h9) rfl hin rfl (by decide +kernel) rfl rfl (Nat.le_of_ble_eq_true rfl) dX6_init_9 (fun H locs hP hD hS => ?_)
  have hP : va_P (dC, dI) vwCl [(h, .inr (6, [.ref q1_, .int 0, .int 0, .int 0])), (q1_, .inl (cy 0, 40, .inl (fun _ => 0)))] H := hP
  have hD : va_D A [(h, .inr (6, [.ref q1_, .int 0, .int 0, .int 0])), (q1_, .inl (cy 0, 40, .inl (fun _ => 0)))] := hD
  have hP9 := hP.sub (ws' := [(h, .inr (6, [.ref q1_, .int 0, .int 0, .int 0])), (q1_, .inl (cy 0, 40, .inl (fun _ => 0)))]) [0, 1] rfl
  have hD9 := hD.sub (ws' := [(h, .inr (6, [.ref q1_, .int 0, .int 0, .int 0])), (q1_, .inl (cy 0, 40, .inl (fun _ => 0)))]) [0, 1] (by decide) rfl
  exact W.vret hx hb hr (fun t ht hW => ⟨⟨((fun k => [q1_].getD k 0, fun k => [].getD k (fun _ => 0), fun k => [].getD k (fun _ => none)) : uS), rfl, trivial, (by rw [ht]; exact hP9), hD9⟩, hS.F ht⟩) hS.2.2 dX6_init_12

theorem dX2_init_0 : decode cX2_init 0 = .ok (.aload_n 0, 1) := by decide +kernel
theorem dX2_init_1 : decode cX2_init 1 = .ok (.invokespecial 3, 3) := by decide +kernel
theorem dX2_init_4 : decode cX2_init 4 = .ok (.aload_n 0, 1) := by decide +kernel
theorem dX2_init_5 : decode cX2_init 5 = .ok (.iload_n 1, 1) := by decide +kernel
theorem dX2_init_6 : decode cX2_init 6 = .ok (.newarray .int, 2) := by decide +kernel
theorem dX2_init_8 : decode cX2_init 8 = .ok (.putfield 9, 3) := by decide +kernel
theorem dX2_init_11 : decode cX2_init 11 = .ok (.aload_n 0, 1) := by decide +kernel
theorem dX2_init_12 : decode cX2_init 12 = .ok (.iload_n 1, 1) := by decide +kernel
theorem dX2_init_13 : decode cX2_init 13 = .ok (.newarray .int, 2) := by decide +kernel
theorem dX2_init_15 : decode cX2_init 15 = .ok (.putfield 15, 3) := by decide +kernel
theorem dX2_init_18 : decode cX2_init 18 = .ok (.return_, 1) := by decide +kernel
def v_X2_init : List Cond := .code yX2_init cX2_init 2 none :: ([.methodLink RX2 3 objectInit, .instanceMethod objectInit, .code objectInit ⟨#[0xb1]⟩ 1 none, .arrayClass .int, .fieldLink RX2 9 "RestBoard$Log" "who" "[I", .fieldLink RX2 15 "RestBoard$Log" "what" "[I"] ++ wsX20)
theorem m_X2_init_0 : (.methodLink RX2 3 objectInit : Cond) ∈ v_X2_init := List.mem_of_getElem? (i := 1) (by decide +kernel)
theorem m_X2_init_1 : (.instanceMethod objectInit : Cond) ∈ v_X2_init := List.mem_of_getElem? (i := 2) (by decide +kernel)
theorem m_X2_init_2 : (.code objectInit ⟨#[0xb1]⟩ 1 none : Cond) ∈ v_X2_init := List.mem_of_getElem? (i := 3) (by decide +kernel)
theorem m_X2_init_3 : (.arrayClass .int : Cond) ∈ v_X2_init := List.mem_of_getElem? (i := 4) (by decide +kernel)
theorem m_X2_init_4 : (.fieldLink RX2 9 "RestBoard$Log" "who" "[I" : Cond) ∈ v_X2_init := List.mem_of_getElem? (i := 5) (by decide +kernel)
theorem m_X2_init_5 : (.fieldLink RX2 15 "RestBoard$Log" "what" "[I" : Cond) ∈ v_X2_init := List.mem_of_getElem? (i := 6) (by decide +kernel)
theorem i_X2_init_X2 : ∀ w ∈ u_ws RX2 TX2 4, w ∈ v_X2_init := fun w h => List.mem_cons_of_mem _ (List.mem_append_right _ h)
set_option maxHeartbeats 4000000 in
set_option maxRecDepth 100000 in
theorem c_X2_init_16 (l : Launch) (dC : Nat → ClassId) (dI : Nat → Nat → Nat) (cy : Nat → ClassId) (h : Nat) (sz : Nat) : Met l yX2_init v_X2_init ({ frames := 1, cells := 2, slots := 32, locals := 12 }) (va_Pc [.ref h, .int 16] (ps dC dI cy ([(h, .inr (2, [.null, .null, .int 0, .int 0]))]) sz)) (va_Qv (fun (_ : uS) => True) (fun (u : uS) (t : State) => va_P (dC, dI) vwCl ([(h, .inr (2, [.ref (u.1 0), .ref (u.1 1), .int 0, .int 0])), (u.1 0, .inl (cy 0, 16, .inl (fun _ => 0))), (u.1 1, .inl (cy 0, 16, .inl (fun _ => 0)))]) t.heap ∧ va_D (va_A ([(h, .inr (2, [.null, .null, .int 0, .int 0]))]) sz) ([(h, .inr (2, [.ref (u.1 0), .ref (u.1 1), .int 0, .int 0])), (u.1 0, .inl (cy 0, 16, .inl (fun _ => 0))), (u.1 1, .inl (cy 0, 16, .inl (fun _ => 0)))])) (va_A ([(h, .inr (2, [.null, .null, .int 0, .int 0]))]) sz)) 2 32 (va_A ([(h, .inr (2, [.null, .null, .int 0, .int 0]))]) sz) := by
  refine Met.ofW (cc := cX2_init) (maxL := 2) (ret := none) (by decide) rfl ?_
  intro p e s m args below meth c s₁ B hml hv
  obtain ⟨rfl, hsz, hP, hC, hD0⟩ := hv
  have hK := hC.1
  have hx := B.exec
  have hb := B.bytes
  have hr := B.returns
  have hts := atoms_spec (ws := v_X2_init) B.pre
  have hown : s.vm.findClass RX2 = some m.cls := findClass_of_methodNamed B.named
  have hlocks := B.notSynchronized
  have hin : meth.name = "<init>" := (name_of_methodNamed B.named B.method).1
  subst hsz
  have hD := hD0.self (sz := s.heap.size)
  generalize hAe : va_A ([(h, .inr (2, [.null, .null, .int 0, .int 0]))]) s.heap.size = A at hD ⊢
  have hA : ∀ q : Nat, s.heap.size ≤ q → A q := fun q h => by rw [← hAe]; exact Or.inr h
  have hS : va_S A s.heap s.heap [] := va_S.rf
  have hl := lv_entry ([.ref h, .int 16]) (n := 2) (Nat.le_of_ble_eq_true rfl)
  rw [lg_entry_eq]
  generalize (lg_sl ([.ref h, .int 16]) ++ List.replicate (2 - (lg_sl ([.ref h, .int 16])).length) Slot.unset).toArray = ls at hl ⊢
  have hl : lv_has ls 2 [(0, .ref h), (1, .int 16)] := hl
  refine lv_aload_n hx hb dX2_init_0 rfl (lv_at hl 0 rfl) ?_
  refine W.objInit hx hb hown (hts _ m_X2_init_0) (hts _ m_X2_init_1) (hts _ m_X2_init_2) rfl (by rw [hml]; exact hl.1) rfl dX2_init_1 (Nat.le_of_ble_eq_true rfl) (Nat.le_of_ble_eq_true rfl) ?_
  refine W.eq (g2 := F0 m 4 ls []) rfl ?_
  refine lv_aload_n hx hb dX2_init_4 rfl (lv_at hl 0 rfl) ?_
  refine lv_iload_n hx hb dX2_init_5 rfl (lv_at hl 1 rfl) ?_
  refine va_newa (atype := .int) (N' := 16) (a0 := (16, .inl (fun _ => 0))) hx hb (hts _ m_X2_init_3) rfl hK hP hD hS hA (fun _ => rfl) (by decide) (by decide) (by decide) (Nat.le_of_ble_eq_true rfl) (Nat.le_of_ble_eq_true rfl) dX2_init_6 (fun q1_ cA_ H hKn hP hD hS => ?_)
  obtain rfl := va_K.oneI hKn
  have hP : va_P (dC, dI) vwCl [(h, .inr (2, [.null, .null, .int 0, .int 0])), (q1_, .inl (cy 0, 16, .inl (fun _ => 0)))] H := hP
  have hD : va_D A [(h, .inr (2, [.null, .null, .int 0, .int 0])), (q1_, .inl (cy 0, 16, .inl (fun _ => 0)))] := hD
  refine va_putF (D := (dC, dI)) (ci := 2) (v := .ref q1_) (ty := .array .int) (C := RX2) (T := TX2) (N := 4) hx hb hts i_X2_init_X2 tyX2 tyX2_ok nmX2 hown hK hP hD hS 0 rfl rfl 0 (by decide) (hts _ m_X2_init_4) (fun _ h9 => h9) rfl hin rfl (by decide +kernel) rfl rfl (Nat.le_of_ble_eq_true rfl) dX2_init_8 (fun H locs hP hD hS => ?_)
  have hP : va_P (dC, dI) vwCl [(h, .inr (2, [.ref q1_, .null, .int 0, .int 0])), (q1_, .inl (cy 0, 16, .inl (fun _ => 0)))] H := hP
  have hD : va_D A [(h, .inr (2, [.ref q1_, .null, .int 0, .int 0])), (q1_, .inl (cy 0, 16, .inl (fun _ => 0)))] := hD
  refine lv_aload_n hx hb dX2_init_11 rfl (lv_at hl 0 rfl) ?_
  refine lv_iload_n hx hb dX2_init_12 rfl (lv_at hl 1 rfl) ?_
  refine va_newa (atype := .int) (N' := 16) (a0 := (16, .inl (fun _ => 0))) hx hb (hts _ m_X2_init_3) rfl hK hP hD hS hA (fun _ => rfl) (by decide) (by decide) (by decide) (Nat.le_of_ble_eq_true rfl) (Nat.le_of_ble_eq_true rfl) dX2_init_13 (fun q2_ cA_ H hKn hP hD hS => ?_)
  obtain rfl := va_K.oneI hKn
  have hP : va_P (dC, dI) vwCl [(h, .inr (2, [.ref q1_, .null, .int 0, .int 0])), (q1_, .inl (cy 0, 16, .inl (fun _ => 0))), (q2_, .inl (cy 0, 16, .inl (fun _ => 0)))] H := hP
  have hD : va_D A [(h, .inr (2, [.ref q1_, .null, .int 0, .int 0])), (q1_, .inl (cy 0, 16, .inl (fun _ => 0))), (q2_, .inl (cy 0, 16, .inl (fun _ => 0)))] := hD
  refine va_putF (D := (dC, dI)) (ci := 2) (v := .ref q2_) (ty := .array .int) (C := RX2) (T := TX2) (N := 4) hx hb hts i_X2_init_X2 tyX2 tyX2_ok nmX2 hown hK hP hD hS 0 rfl rfl 1 (by decide) (hts _ m_X2_init_5) (fun _ h9 => h9) rfl hin rfl (by decide +kernel) rfl rfl (Nat.le_of_ble_eq_true rfl) dX2_init_15 (fun H locs hP hD hS => ?_)
  have hP : va_P (dC, dI) vwCl [(h, .inr (2, [.ref q1_, .ref q2_, .int 0, .int 0])), (q1_, .inl (cy 0, 16, .inl (fun _ => 0))), (q2_, .inl (cy 0, 16, .inl (fun _ => 0)))] H := hP
  have hD : va_D A [(h, .inr (2, [.ref q1_, .ref q2_, .int 0, .int 0])), (q1_, .inl (cy 0, 16, .inl (fun _ => 0))), (q2_, .inl (cy 0, 16, .inl (fun _ => 0)))] := hD
  have hP9 := hP.sub (ws' := [(h, .inr (2, [.ref q1_, .ref q2_, .int 0, .int 0])), (q1_, .inl (cy 0, 16, .inl (fun _ => 0))), (q2_, .inl (cy 0, 16, .inl (fun _ => 0)))]) [0, 1, 2] rfl
  have hD9 := hD.sub (ws' := [(h, .inr (2, [.ref q1_, .ref q2_, .int 0, .int 0])), (q1_, .inl (cy 0, 16, .inl (fun _ => 0))), (q2_, .inl (cy 0, 16, .inl (fun _ => 0)))]) [0, 1, 2] (by decide) rfl
  exact W.vret hx hb hr (fun t ht hW => ⟨⟨((fun k => [q1_, q2_].getD k 0, fun k => [].getD k (fun _ => 0), fun k => [].getD k (fun _ => none)) : uS), rfl, trivial, (by rw [ht]; exact hP9), hD9⟩, hS.F ht⟩) hS.2.2 dX2_init_18

set_option maxHeartbeats 4000000 in
set_option maxRecDepth 100000 in
theorem c_X2_init_32 (l : Launch) (dC : Nat → ClassId) (dI : Nat → Nat → Nat) (cy : Nat → ClassId) (h : Nat) (sz : Nat) : Met l yX2_init v_X2_init ({ frames := 1, cells := 2, slots := 64, locals := 12 }) (va_Pc [.ref h, .int 32] (ps dC dI cy ([(h, .inr (2, [.null, .null, .int 0, .int 0]))]) sz)) (va_Qv (fun (_ : uS) => True) (fun (u : uS) (t : State) => va_P (dC, dI) vwCl ([(h, .inr (2, [.ref (u.1 0), .ref (u.1 1), .int 0, .int 0])), (u.1 0, .inl (cy 0, 32, .inl (fun _ => 0))), (u.1 1, .inl (cy 0, 32, .inl (fun _ => 0)))]) t.heap ∧ va_D (va_A ([(h, .inr (2, [.null, .null, .int 0, .int 0]))]) sz) ([(h, .inr (2, [.ref (u.1 0), .ref (u.1 1), .int 0, .int 0])), (u.1 0, .inl (cy 0, 32, .inl (fun _ => 0))), (u.1 1, .inl (cy 0, 32, .inl (fun _ => 0)))])) (va_A ([(h, .inr (2, [.null, .null, .int 0, .int 0]))]) sz)) 2 64 (va_A ([(h, .inr (2, [.null, .null, .int 0, .int 0]))]) sz) := by
  refine Met.ofW (cc := cX2_init) (maxL := 2) (ret := none) (by decide) rfl ?_
  intro p e s m args below meth c s₁ B hml hv
  obtain ⟨rfl, hsz, hP, hC, hD0⟩ := hv
  have hK := hC.1
  have hx := B.exec
  have hb := B.bytes
  have hr := B.returns
  have hts := atoms_spec (ws := v_X2_init) B.pre
  have hown : s.vm.findClass RX2 = some m.cls := findClass_of_methodNamed B.named
  have hlocks := B.notSynchronized
  have hin : meth.name = "<init>" := (name_of_methodNamed B.named B.method).1
  subst hsz
  have hD := hD0.self (sz := s.heap.size)
  generalize hAe : va_A ([(h, .inr (2, [.null, .null, .int 0, .int 0]))]) s.heap.size = A at hD ⊢
  have hA : ∀ q : Nat, s.heap.size ≤ q → A q := fun q h => by rw [← hAe]; exact Or.inr h
  have hS : va_S A s.heap s.heap [] := va_S.rf
  have hl := lv_entry ([.ref h, .int 32]) (n := 2) (Nat.le_of_ble_eq_true rfl)
  rw [lg_entry_eq]
  generalize (lg_sl ([.ref h, .int 32]) ++ List.replicate (2 - (lg_sl ([.ref h, .int 32])).length) Slot.unset).toArray = ls at hl ⊢
  have hl : lv_has ls 2 [(0, .ref h), (1, .int 32)] := hl
  refine lv_aload_n hx hb dX2_init_0 rfl (lv_at hl 0 rfl) ?_
  refine W.objInit hx hb hown (hts _ m_X2_init_0) (hts _ m_X2_init_1) (hts _ m_X2_init_2) rfl (by rw [hml]; exact hl.1) rfl dX2_init_1 (Nat.le_of_ble_eq_true rfl) (Nat.le_of_ble_eq_true rfl) ?_
  refine W.eq (g2 := F0 m 4 ls []) rfl ?_
  refine lv_aload_n hx hb dX2_init_4 rfl (lv_at hl 0 rfl) ?_
  refine lv_iload_n hx hb dX2_init_5 rfl (lv_at hl 1 rfl) ?_
  refine va_newa (atype := .int) (N' := 32) (a0 := (32, .inl (fun _ => 0))) hx hb (hts _ m_X2_init_3) rfl hK hP hD hS hA (fun _ => rfl) (by decide) (by decide) (by decide) (Nat.le_of_ble_eq_true rfl) (Nat.le_of_ble_eq_true rfl) dX2_init_6 (fun q1_ cA_ H hKn hP hD hS => ?_)
  obtain rfl := va_K.oneI hKn
  have hP : va_P (dC, dI) vwCl [(h, .inr (2, [.null, .null, .int 0, .int 0])), (q1_, .inl (cy 0, 32, .inl (fun _ => 0)))] H := hP
  have hD : va_D A [(h, .inr (2, [.null, .null, .int 0, .int 0])), (q1_, .inl (cy 0, 32, .inl (fun _ => 0)))] := hD
  refine va_putF (D := (dC, dI)) (ci := 2) (v := .ref q1_) (ty := .array .int) (C := RX2) (T := TX2) (N := 4) hx hb hts i_X2_init_X2 tyX2 tyX2_ok nmX2 hown hK hP hD hS 0 rfl rfl 0 (by decide) (hts _ m_X2_init_4) (fun _ h9 => h9) rfl hin rfl (by decide +kernel) rfl rfl (Nat.le_of_ble_eq_true rfl) dX2_init_8 (fun H locs hP hD hS => ?_)
  have hP : va_P (dC, dI) vwCl [(h, .inr (2, [.ref q1_, .null, .int 0, .int 0])), (q1_, .inl (cy 0, 32, .inl (fun _ => 0)))] H := hP
  have hD : va_D A [(h, .inr (2, [.ref q1_, .null, .int 0, .int 0])), (q1_, .inl (cy 0, 32, .inl (fun _ => 0)))] := hD
  refine lv_aload_n hx hb dX2_init_11 rfl (lv_at hl 0 rfl) ?_
  refine lv_iload_n hx hb dX2_init_12 rfl (lv_at hl 1 rfl) ?_
  refine va_newa (atype := .int) (N' := 32) (a0 := (32, .inl (fun _ => 0))) hx hb (hts _ m_X2_init_3) rfl hK hP hD hS hA (fun _ => rfl) (by decide) (by decide) (by decide) (Nat.le_of_ble_eq_true rfl) (Nat.le_of_ble_eq_true rfl) dX2_init_13 (fun q2_ cA_ H hKn hP hD hS => ?_)
  obtain rfl := va_K.oneI hKn
  have hP : va_P (dC, dI) vwCl [(h, .inr (2, [.ref q1_, .null, .int 0, .int 0])), (q1_, .inl (cy 0, 32, .inl (fun _ => 0))), (q2_, .inl (cy 0, 32, .inl (fun _ => 0)))] H := hP
  have hD : va_D A [(h, .inr (2, [.ref q1_, .null, .int 0, .int 0])), (q1_, .inl (cy 0, 32, .inl (fun _ => 0))), (q2_, .inl (cy 0, 32, .inl (fun _ => 0)))] := hD
  refine va_putF (D := (dC, dI)) (ci := 2) (v := .ref q2_) (ty := .array .int) (C := RX2) (T := TX2) (N := 4) hx hb hts i_X2_init_X2 tyX2 tyX2_ok nmX2 hown hK hP hD hS 0 rfl rfl 1 (by decide) (hts _ m_X2_init_5) (fun _ h9 => h9) rfl hin rfl (by decide +kernel) rfl rfl (Nat.le_of_ble_eq_true rfl) dX2_init_15 (fun H locs hP hD hS => ?_)
  have hP : va_P (dC, dI) vwCl [(h, .inr (2, [.ref q1_, .ref q2_, .int 0, .int 0])), (q1_, .inl (cy 0, 32, .inl (fun _ => 0))), (q2_, .inl (cy 0, 32, .inl (fun _ => 0)))] H := hP
  have hD : va_D A [(h, .inr (2, [.ref q1_, .ref q2_, .int 0, .int 0])), (q1_, .inl (cy 0, 32, .inl (fun _ => 0))), (q2_, .inl (cy 0, 32, .inl (fun _ => 0)))] := hD
  have hP9 := hP.sub (ws' := [(h, .inr (2, [.ref q1_, .ref q2_, .int 0, .int 0])), (q1_, .inl (cy 0, 32, .inl (fun _ => 0))), (q2_, .inl (cy 0, 32, .inl (fun _ => 0)))]) [0, 1, 2] rfl
  have hD9 := hD.sub (ws' := [(h, .inr (2, [.ref q1_, .ref q2_, .int 0, .int 0])), (q1_, .inl (cy 0, 32, .inl (fun _ => 0))), (q2_, .inl (cy 0, 32, .inl (fun _ => 0)))]) [0, 1, 2] (by decide) rfl
  exact W.vret hx hb hr (fun t ht hW => ⟨⟨((fun k => [q1_, q2_].getD k 0, fun k => [].getD k (fun _ => 0), fun k => [].getD k (fun _ => none)) : uS), rfl, trivial, (by rw [ht]; exact hP9), hD9⟩, hS.F ht⟩) hS.2.2 dX2_init_18

theorem dX8_init_0 : decode cX8_init 0 = .ok (.aload_n 0, 1) := by decide +kernel
theorem dX8_init_1 : decode cX8_init 1 = .ok (.invokespecial 3, 3) := by decide +kernel
theorem dX8_init_4 : decode cX8_init 4 = .ok (.aload_n 0, 1) := by decide +kernel
theorem dX8_init_5 : decode cX8_init 5 = .ok (.iconst 1, 1) := by decide +kernel
theorem dX8_init_6 : decode cX8_init 6 = .ok (.putfield 9, 3) := by decide +kernel
theorem dX8_init_9 : decode cX8_init 9 = .ok (.aload_n 0, 1) := by decide +kernel
theorem dX8_init_10 : decode cX8_init 10 = .ok (.bipush 32, 2) := by decide +kernel
theorem dX8_init_12 : decode cX8_init 12 = .ok (.newarray .int, 2) := by decide +kernel
theorem dX8_init_14 : decode cX8_init 14 = .ok (.putfield 15, 3) := by decide +kernel
theorem dX8_init_17 : decode cX8_init 17 = .ok (.aload_n 0, 1) := by decide +kernel
theorem dX8_init_18 : decode cX8_init 18 = .ok (.sipush 192, 3) := by decide +kernel
theorem dX8_init_21 : decode cX8_init 21 = .ok (.newarray .int, 2) := by decide +kernel
theorem dX8_init_23 : decode cX8_init 23 = .ok (.putfield 19, 3) := by decide +kernel
theorem dX8_init_26 : decode cX8_init 26 = .ok (.aload_n 0, 1) := by decide +kernel
theorem dX8_init_27 : decode cX8_init 27 = .ok (.bipush 32, 2) := by decide +kernel
theorem dX8_init_29 : decode cX8_init 29 = .ok (.newarray .int, 2) := by decide +kernel
theorem dX8_init_31 : decode cX8_init 31 = .ok (.putfield 22, 3) := by decide +kernel
theorem dX8_init_34 : decode cX8_init 34 = .ok (.aload_n 0, 1) := by decide +kernel
theorem dX8_init_35 : decode cX8_init 35 = .ok (.bipush 32, 2) := by decide +kernel
theorem dX8_init_37 : decode cX8_init 37 = .ok (.newarray .int, 2) := by decide +kernel
theorem dX8_init_39 : decode cX8_init 39 = .ok (.putfield 25, 3) := by decide +kernel
theorem dX8_init_42 : decode cX8_init 42 = .ok (.aload_n 0, 1) := by decide +kernel
theorem dX8_init_43 : decode cX8_init 43 = .ok (.bipush 32, 2) := by decide +kernel
theorem dX8_init_45 : decode cX8_init 45 = .ok (.newarray .int, 2) := by decide +kernel
theorem dX8_init_47 : decode cX8_init 47 = .ok (.putfield 28, 3) := by decide +kernel
theorem dX8_init_50 : decode cX8_init 50 = .ok (.aload_n 0, 1) := by decide +kernel
theorem dX8_init_51 : decode cX8_init 51 = .ok (.bipush 32, 2) := by decide +kernel
theorem dX8_init_53 : decode cX8_init 53 = .ok (.newarray .int, 2) := by decide +kernel
theorem dX8_init_55 : decode cX8_init 55 = .ok (.putfield 31, 3) := by decide +kernel
theorem dX8_init_58 : decode cX8_init 58 = .ok (.aload_n 0, 1) := by decide +kernel
theorem dX8_init_59 : decode cX8_init 59 = .ok (.bipush 32, 2) := by decide +kernel
theorem dX8_init_61 : decode cX8_init 61 = .ok (.newarray .int, 2) := by decide +kernel
theorem dX8_init_63 : decode cX8_init 63 = .ok (.putfield 34, 3) := by decide +kernel
theorem dX8_init_66 : decode cX8_init 66 = .ok (.aload_n 0, 1) := by decide +kernel
theorem dX8_init_67 : decode cX8_init 67 = .ok (.sipush 192, 3) := by decide +kernel
theorem dX8_init_70 : decode cX8_init 70 = .ok (.newarray .int, 2) := by decide +kernel
theorem dX8_init_72 : decode cX8_init 72 = .ok (.putfield 37, 3) := by decide +kernel
theorem dX8_init_75 : decode cX8_init 75 = .ok (.aload_n 0, 1) := by decide +kernel
theorem dX8_init_76 : decode cX8_init 76 = .ok (.sipush 128, 3) := by decide +kernel
theorem dX8_init_79 : decode cX8_init 79 = .ok (.newarray .int, 2) := by decide +kernel
theorem dX8_init_81 : decode cX8_init 81 = .ok (.putfield 40, 3) := by decide +kernel
theorem dX8_init_84 : decode cX8_init 84 = .ok (.aload_n 0, 1) := by decide +kernel
theorem dX8_init_85 : decode cX8_init 85 = .ok (.bipush 32, 2) := by decide +kernel
theorem dX8_init_87 : decode cX8_init 87 = .ok (.newarray .int, 2) := by decide +kernel
theorem dX8_init_89 : decode cX8_init 89 = .ok (.putfield 43, 3) := by decide +kernel
theorem dX8_init_92 : decode cX8_init 92 = .ok (.aload_n 0, 1) := by decide +kernel
theorem dX8_init_93 : decode cX8_init 93 = .ok (.sipush 192, 3) := by decide +kernel
theorem dX8_init_96 : decode cX8_init 96 = .ok (.newarray .int, 2) := by decide +kernel
theorem dX8_init_98 : decode cX8_init 98 = .ok (.putfield 46, 3) := by decide +kernel
theorem dX8_init_101 : decode cX8_init 101 = .ok (.aload_n 0, 1) := by decide +kernel
theorem dX8_init_102 : decode cX8_init 102 = .ok (.new 49, 3) := by decide +kernel
theorem dX8_init_105 : decode cX8_init 105 = .ok (.dup, 1) := by decide +kernel
theorem dX8_init_106 : decode cX8_init 106 = .ok (.invokespecial 51, 3) := by decide +kernel
theorem dX8_init_109 : decode cX8_init 109 = .ok (.putfield 52, 3) := by decide +kernel
theorem dX8_init_112 : decode cX8_init 112 = .ok (.aload_n 0, 1) := by decide +kernel
theorem dX8_init_113 : decode cX8_init 113 = .ok (.new 56, 3) := by decide +kernel
theorem dX8_init_116 : decode cX8_init 116 = .ok (.dup, 1) := by decide +kernel
theorem dX8_init_117 : decode cX8_init 117 = .ok (.bipush 16, 2) := by decide +kernel
theorem dX8_init_119 : decode cX8_init 119 = .ok (.invokespecial 58, 3) := by decide +kernel
theorem dX8_init_122 : decode cX8_init 122 = .ok (.putfield 61, 3) := by decide +kernel
theorem dX8_init_125 : decode cX8_init 125 = .ok (.aload_n 0, 1) := by decide +kernel
theorem dX8_init_126 : decode cX8_init 126 = .ok (.new 56, 3) := by decide +kernel
theorem dX8_init_129 : decode cX8_init 129 = .ok (.dup, 1) := by decide +kernel
theorem dX8_init_130 : decode cX8_init 130 = .ok (.bipush 32, 2) := by decide +kernel
theorem dX8_init_132 : decode cX8_init 132 = .ok (.invokespecial 58, 3) := by decide +kernel
theorem dX8_init_135 : decode cX8_init 135 = .ok (.putfield 65, 3) := by decide +kernel
theorem dX8_init_138 : decode cX8_init 138 = .ok (.aload_n 0, 1) := by decide +kernel
theorem dX8_init_139 : decode cX8_init 139 = .ok (.getfield 31, 3) := by decide +kernel
theorem dX8_init_142 : decode cX8_init 142 = .ok (.iconst (-1), 1) := by decide +kernel
theorem dX8_init_143 : decode cX8_init 143 = .ok (.invokestatic 68, 3) := by decide +kernel
theorem dX8_init_146 : decode cX8_init 146 = .ok (.aload_n 0, 1) := by decide +kernel
theorem dX8_init_147 : decode cX8_init 147 = .ok (.getfield 37, 3) := by decide +kernel
theorem dX8_init_150 : decode cX8_init 150 = .ok (.iconst (-1), 1) := by decide +kernel
theorem dX8_init_151 : decode cX8_init 151 = .ok (.invokestatic 68, 3) := by decide +kernel
theorem dX8_init_154 : decode cX8_init 154 = .ok (.aload_n 0, 1) := by decide +kernel
theorem dX8_init_155 : decode cX8_init 155 = .ok (.getfield 40, 3) := by decide +kernel
theorem dX8_init_158 : decode cX8_init 158 = .ok (.iconst (-1), 1) := by decide +kernel
theorem dX8_init_159 : decode cX8_init 159 = .ok (.invokestatic 68, 3) := by decide +kernel
theorem dX8_init_162 : decode cX8_init 162 = .ok (.return_, 1) := by decide +kernel
def v_X8_init : List Cond := .code yX8_init cX8_init 1 none :: ([.methodLink RX8 3 objectInit, .instanceMethod objectInit, .code objectInit ⟨#[0xb1]⟩ 1 none, .fieldLink RX8 9 "RestBoard$State" "size" "I", .arrayClass .int, .fieldLink RX8 15 "RestBoard$State" "values" "[I", .fieldLink RX8 19 "RestBoard$State" "packed" "[I", .fieldLink RX8 22 "RestBoard$State" "counts" "[I", .fieldLink RX8 25 "RestBoard$State" "forgotten" "[I", .fieldLink RX8 28 "RestBoard$State" "powers" "[I", .fieldLink RX8 31 "RestBoard$State" "lines" "[I", .fieldLink RX8 34 "RestBoard$State" "depths" "[I", .fieldLink RX8 37 "RestBoard$State" "wanting" "[I", .fieldLink RX8 40 "RestBoard$State" "tied" "[I", .fieldLink RX8 43 "RestBoard$State" "oldPowers" "[I", .fieldLink RX8 46 "RestBoard$State" "oldWanting" "[I", .classLink RX8 49 RX6, .instantiable RX6 4, .initialized RX6, .instanceMethod yX6_init, .fieldLink RX8 52 "RestBoard$State" "registers" "LRestBoard$Registers;", .classLink RX8 56 RX2, .instantiable RX2 4, .initialized RX2, .methodLink RX8 58 yX2_init, .instanceMethod yX2_init, .fieldLink RX8 61 "RestBoard$State" "notes" "LRestBoard$Log;", .fieldLink RX8 65 "RestBoard$State" "switches" "LRestBoard$Log;", .code yX6_init cX6_init 1 none, .methodLink RX6 3 objectInit, .fieldLink RX6 9 "RestBoard$Registers" "bytes" "[I", .code yX2_init cX2_init 2 none, .methodLink RX2 3 objectInit, .fieldLink RX2 9 "RestBoard$Log" "who" "[I", .fieldLink RX2 15 "RestBoard$Log" "what" "[I", .methodLink RX8 68 yJ7_fill_53178, .static yJ7_fill_53178, .initialized RJ7, .code yJ7_fill_53178 cJ7_fill_53178 4 none] ++ wsX80 ++ wsX60 ++ wsX20)
theorem m_X8_init_0 : (.methodLink RX8 3 objectInit : Cond) ∈ v_X8_init := List.mem_of_getElem? (i := 1) (by decide +kernel)
theorem m_X8_init_1 : (.instanceMethod objectInit : Cond) ∈ v_X8_init := List.mem_of_getElem? (i := 2) (by decide +kernel)
theorem m_X8_init_2 : (.code objectInit ⟨#[0xb1]⟩ 1 none : Cond) ∈ v_X8_init := List.mem_of_getElem? (i := 3) (by decide +kernel)
theorem m_X8_init_3 : (.fieldLink RX8 9 "RestBoard$State" "size" "I" : Cond) ∈ v_X8_init := List.mem_of_getElem? (i := 4) (by decide +kernel)
theorem m_X8_init_4 : (.arrayClass .int : Cond) ∈ v_X8_init := List.mem_of_getElem? (i := 5) (by decide +kernel)
theorem m_X8_init_5 : (.fieldLink RX8 15 "RestBoard$State" "values" "[I" : Cond) ∈ v_X8_init := List.mem_of_getElem? (i := 6) (by decide +kernel)
theorem m_X8_init_6 : (.fieldLink RX8 19 "RestBoard$State" "packed" "[I" : Cond) ∈ v_X8_init := List.mem_of_getElem? (i := 7) (by decide +kernel)
theorem m_X8_init_7 : (.fieldLink RX8 22 "RestBoard$State" "counts" "[I" : Cond) ∈ v_X8_init := List.mem_of_getElem? (i := 8) (by decide +kernel)
theorem m_X8_init_8 : (.fieldLink RX8 25 "RestBoard$State" "forgotten" "[I" : Cond) ∈ v_X8_init := List.mem_of_getElem? (i := 9) (by decide +kernel)
theorem m_X8_init_9 : (.fieldLink RX8 28 "RestBoard$State" "powers" "[I" : Cond) ∈ v_X8_init := List.mem_of_getElem? (i := 10) (by decide +kernel)
theorem m_X8_init_10 : (.fieldLink RX8 31 "RestBoard$State" "lines" "[I" : Cond) ∈ v_X8_init := List.mem_of_getElem? (i := 11) (by decide +kernel)
theorem m_X8_init_11 : (.fieldLink RX8 34 "RestBoard$State" "depths" "[I" : Cond) ∈ v_X8_init := List.mem_of_getElem? (i := 12) (by decide +kernel)
theorem m_X8_init_12 : (.fieldLink RX8 37 "RestBoard$State" "wanting" "[I" : Cond) ∈ v_X8_init := List.mem_of_getElem? (i := 13) (by decide +kernel)
theorem m_X8_init_13 : (.fieldLink RX8 40 "RestBoard$State" "tied" "[I" : Cond) ∈ v_X8_init := List.mem_of_getElem? (i := 14) (by decide +kernel)
theorem m_X8_init_14 : (.fieldLink RX8 43 "RestBoard$State" "oldPowers" "[I" : Cond) ∈ v_X8_init := List.mem_of_getElem? (i := 15) (by decide +kernel)
theorem m_X8_init_15 : (.fieldLink RX8 46 "RestBoard$State" "oldWanting" "[I" : Cond) ∈ v_X8_init := List.mem_of_getElem? (i := 16) (by decide +kernel)
theorem m_X8_init_16 : (.classLink RX8 49 RX6 : Cond) ∈ v_X8_init := List.mem_of_getElem? (i := 17) (by decide +kernel)
theorem m_X8_init_17 : (.instantiable RX6 4 : Cond) ∈ v_X8_init := List.mem_of_getElem? (i := 18) (by decide +kernel)
theorem m_X8_init_18 : (.initialized RX6 : Cond) ∈ v_X8_init := List.mem_of_getElem? (i := 19) (by decide +kernel)
theorem m_X8_init_19 : (.instanceMethod yX6_init : Cond) ∈ v_X8_init := List.mem_of_getElem? (i := 20) (by decide +kernel)
theorem m_X8_init_20 : (.fieldLink RX8 52 "RestBoard$State" "registers" "LRestBoard$Registers;" : Cond) ∈ v_X8_init := List.mem_of_getElem? (i := 21) (by decide +kernel)
theorem m_X8_init_21 : (.classLink RX8 56 RX2 : Cond) ∈ v_X8_init := List.mem_of_getElem? (i := 22) (by decide +kernel)
theorem m_X8_init_22 : (.instantiable RX2 4 : Cond) ∈ v_X8_init := List.mem_of_getElem? (i := 23) (by decide +kernel)
theorem m_X8_init_23 : (.initialized RX2 : Cond) ∈ v_X8_init := List.mem_of_getElem? (i := 24) (by decide +kernel)
theorem m_X8_init_24 : (.methodLink RX8 58 yX2_init : Cond) ∈ v_X8_init := List.mem_of_getElem? (i := 25) (by decide +kernel)
theorem m_X8_init_25 : (.instanceMethod yX2_init : Cond) ∈ v_X8_init := List.mem_of_getElem? (i := 26) (by decide +kernel)
theorem m_X8_init_26 : (.fieldLink RX8 61 "RestBoard$State" "notes" "LRestBoard$Log;" : Cond) ∈ v_X8_init := List.mem_of_getElem? (i := 27) (by decide +kernel)
theorem m_X8_init_27 : (.fieldLink RX8 65 "RestBoard$State" "switches" "LRestBoard$Log;" : Cond) ∈ v_X8_init := List.mem_of_getElem? (i := 28) (by decide +kernel)
theorem i_X8_init_X8 : ∀ w ∈ u_ws RX8 TX8 17, w ∈ v_X8_init := fun w h => List.mem_cons_of_mem _ (List.mem_append_left _ (List.mem_append_left _ (List.mem_append_right _ h)))
theorem i_X8_init_X6 : ∀ w ∈ u_ws RX6 TX6 4, w ∈ v_X8_init := fun w h => List.mem_cons_of_mem _ (List.mem_append_left _ (List.mem_append_right _ h))
theorem i_X8_init_X2 : ∀ w ∈ u_ws RX2 TX2 4, w ∈ v_X8_init := fun w h => List.mem_cons_of_mem _ (List.mem_append_right _ h)
set_option maxRecDepth 100000 in
theorem gg_X8_init_X6_init_51 : GoodIn v_X8_init v_X6_init := goodIn_r _ [29, 30, 2, 3, 5, 31, 57, 58, 59, 60] (by decide +kernel) (by decide +kernel)
set_option maxRecDepth 100000 in
theorem g_X8_init_X6_init_51 : GoodIn v_X8_init v_X6_init := gg_X8_init_X6_init_51
set_option maxRecDepth 100000 in
theorem gg_X8_init_X2_init_58 : GoodIn v_X8_init v_X2_init := goodIn_r _ [32, 33, 2, 3, 5, 34, 35, 61, 62, 63, 64] (by decide +kernel) (by decide +kernel)
set_option maxRecDepth 100000 in
theorem g_X8_init_X2_init_58 : GoodIn v_X8_init v_X2_init := gg_X8_init_X2_init_58
set_option maxRecDepth 100000 in
theorem gg_X8_init_J7_fill_53178_68 : GoodIn v_X8_init v_J7_fill_53178 := goodIn_r _ [39] (by decide +kernel) (by decide +kernel)
set_option maxRecDepth 100000 in
theorem g_X8_init_J7_fill_53178_68 : GoodIn v_X8_init (va_wsS RX8 68 yJ7_fill_53178 v_J7_fill_53178) := goodIn_app (goodIn_r _ [36, 37, 38] (by decide +kernel) (by decide +kernel)) gg_X8_init_J7_fill_53178_68
set_option maxHeartbeats 4000000 in
set_option maxRecDepth 100000 in
theorem c_X8_init (l : Launch) (dC : Nat → ClassId) (dI : Nat → Nat → Nat) (cy : Nat → ClassId) (h : Nat) (sz : Nat) : Met l yX8_init v_X8_init ({ frames := 2, cells := 19, slots := 1076, locals := 33 }) (va_Pc [.ref h] (ps dC dI cy ([(h, .inr (8, [.int 0, .int 0, .int 0, .null, .null, .null, .null, .null, .null, .null, .null, .null, .null, .null, .null, .null, .null]))]) sz)) (va_Qv (fun (_ : uS) => True) (fun (u : uS) (t : State) => va_P (dC, dI) vwCl ([(h, .inr (8, [.int 1, .int 0, .int 0, .ref (u.1 0), .ref (u.1 1), .ref (u.1 2), .ref (u.1 3), .ref (u.1 4), .ref (u.1 5), .ref (u.1 6), .ref (u.1 7), .ref (u.1 8), .ref (u.1 9), .ref (u.1 10), .ref (u.1 11), .ref (u.1 12), .ref (u.1 13)])), (u.1 0, .inl (cy 0, 32, .inl (fun _ => 0))), (u.1 1, .inl (cy 0, 192, .inl (fun _ => 0))), (u.1 2, .inl (cy 0, 32, .inl (fun _ => 0))), (u.1 3, .inl (cy 0, 32, .inl (fun _ => 0))), (u.1 4, .inl (cy 0, 32, .inl (fun _ => 0))), (u.1 5, .inl (cy 0, 32, .inl (fun _ => (-1)))), (u.1 6, .inl (cy 0, 32, .inl (fun _ => 0))), (u.1 7, .inl (cy 0, 192, .inl (fun _ => (-1)))), (u.1 8, .inl (cy 0, 128, .inl (fun _ => (-1)))), (u.1 9, .inl (cy 0, 32, .inl (fun _ => 0))), (u.1 10, .inl (cy 0, 192, .inl (fun _ => 0))), (u.1 11, .inr (6, [.ref (u.1 14), .int 0, .int 0, .int 0])), (u.1 14, .inl (cy 0, 40, .inl (fun _ => 0))), (u.1 12, .inr (2, [.ref (u.1 15), .ref (u.1 16), .int 0, .int 0])), (u.1 15, .inl (cy 0, 16, .inl (fun _ => 0))), (u.1 16, .inl (cy 0, 16, .inl (fun _ => 0))), (u.1 13, .inr (2, [.ref (u.1 17), .ref (u.1 18), .int 0, .int 0])), (u.1 17, .inl (cy 0, 32, .inl (fun _ => 0))), (u.1 18, .inl (cy 0, 32, .inl (fun _ => 0)))]) t.heap ∧ va_D (va_A ([(h, .inr (8, [.int 0, .int 0, .int 0, .null, .null, .null, .null, .null, .null, .null, .null, .null, .null, .null, .null, .null, .null]))]) sz) ([(h, .inr (8, [.int 1, .int 0, .int 0, .ref (u.1 0), .ref (u.1 1), .ref (u.1 2), .ref (u.1 3), .ref (u.1 4), .ref (u.1 5), .ref (u.1 6), .ref (u.1 7), .ref (u.1 8), .ref (u.1 9), .ref (u.1 10), .ref (u.1 11), .ref (u.1 12), .ref (u.1 13)])), (u.1 0, .inl (cy 0, 32, .inl (fun _ => 0))), (u.1 1, .inl (cy 0, 192, .inl (fun _ => 0))), (u.1 2, .inl (cy 0, 32, .inl (fun _ => 0))), (u.1 3, .inl (cy 0, 32, .inl (fun _ => 0))), (u.1 4, .inl (cy 0, 32, .inl (fun _ => 0))), (u.1 5, .inl (cy 0, 32, .inl (fun _ => (-1)))), (u.1 6, .inl (cy 0, 32, .inl (fun _ => 0))), (u.1 7, .inl (cy 0, 192, .inl (fun _ => (-1)))), (u.1 8, .inl (cy 0, 128, .inl (fun _ => (-1)))), (u.1 9, .inl (cy 0, 32, .inl (fun _ => 0))), (u.1 10, .inl (cy 0, 192, .inl (fun _ => 0))), (u.1 11, .inr (6, [.ref (u.1 14), .int 0, .int 0, .int 0])), (u.1 14, .inl (cy 0, 40, .inl (fun _ => 0))), (u.1 12, .inr (2, [.ref (u.1 15), .ref (u.1 16), .int 0, .int 0])), (u.1 15, .inl (cy 0, 16, .inl (fun _ => 0))), (u.1 16, .inl (cy 0, 16, .inl (fun _ => 0))), (u.1 13, .inr (2, [.ref (u.1 17), .ref (u.1 18), .int 0, .int 0])), (u.1 17, .inl (cy 0, 32, .inl (fun _ => 0))), (u.1 18, .inl (cy 0, 32, .inl (fun _ => 0)))])) (va_A ([(h, .inr (8, [.int 0, .int 0, .int 0, .null, .null, .null, .null, .null, .null, .null, .null, .null, .null, .null, .null, .null, .null]))]) sz)) 19 1076 (va_A ([(h, .inr (8, [.int 0, .int 0, .int 0, .null, .null, .null, .null, .null, .null, .null, .null, .null, .null, .null, .null, .null, .null]))]) sz) := by
  refine Met.ofW (cc := cX8_init) (maxL := 1) (ret := none) (by decide) rfl ?_
  intro p e s m args below meth c s₁ B hml hv
  obtain ⟨rfl, hsz, hP, hC, hD0⟩ := hv
  have hK := hC.1
  have hx := B.exec
  have hb := B.bytes
  have hr := B.returns
  have hts := atoms_spec (ws := v_X8_init) B.pre
  have hown : s.vm.findClass RX8 = some m.cls := findClass_of_methodNamed B.named
  have hlocks := B.notSynchronized
  have hin : meth.name = "<init>" := (name_of_methodNamed B.named B.method).1
  subst hsz
  have hD := hD0.self (sz := s.heap.size)
  generalize hAe : va_A ([(h, .inr (8, [.int 0, .int 0, .int 0, .null, .null, .null, .null, .null, .null, .null, .null, .null, .null, .null, .null, .null, .null]))]) s.heap.size = A at hD ⊢
  have hA : ∀ q : Nat, s.heap.size ≤ q → A q := fun q h => by rw [← hAe]; exact Or.inr h
  have hS : va_S A s.heap s.heap [] := va_S.rf
  have hl := lv_entry ([.ref h]) (n := 1) (Nat.le_of_ble_eq_true rfl)
  rw [lg_entry_eq]
  generalize (lg_sl ([.ref h]) ++ List.replicate (1 - (lg_sl ([.ref h])).length) Slot.unset).toArray = ls at hl ⊢
  have hl : lv_has ls 1 [(0, .ref h)] := hl
  refine lv_aload_n hx hb dX8_init_0 rfl (lv_at hl 0 rfl) ?_
  refine W.objInit hx hb hown (hts _ m_X8_init_0) (hts _ m_X8_init_1) (hts _ m_X8_init_2) rfl (by rw [hml]; exact hl.1) rfl dX8_init_1 (Nat.le_of_ble_eq_true rfl) (Nat.le_of_ble_eq_true rfl) ?_
  refine W.eq (g2 := F0 m 4 ls []) rfl ?_
  refine lv_aload_n hx hb dX8_init_4 rfl (lv_at hl 0 rfl) ?_
  refine lv_iconst (v := 1) hx hb dX8_init_5 (by decide) ?_
  refine va_put (D := (dC, dI)) (ci := 8) (v := .int 1) (ty := .int) (C := RX8) (T := TX8) (N := 17) hx hb hts i_X8_init_X8 tyX8 tyX8_ok nmX8 hown hK hP hD hS 0 rfl rfl 0 (by decide) (hts _ m_X8_init_3) (fun _ h9 => h9) rfl (by decide +kernel) rfl rfl (Nat.le_of_ble_eq_true rfl) dX8_init_6 (fun H locs hP hD hS => ?_)
  have hP : va_P (dC, dI) vwCl [(h, .inr (8, [.int 1, .int 0, .int 0, .null, .null, .null, .null, .null, .null, .null, .null, .null, .null, .null, .null, .null, .null]))] H := hP
  have hD : va_D A [(h, .inr (8, [.int 1, .int 0, .int 0, .null, .null, .null, .null, .null, .null, .null, .null, .null, .null, .null, .null, .null, .null]))] := hD
  refine lv_aload_n hx hb dX8_init_9 rfl (lv_at hl 0 rfl) ?_
  refine lv_bipush (v := 32) hx hb dX8_init_10 (by decide) ?_
  refine va_newa (atype := .int) (N' := 32) (a0 := (32, .inl (fun _ => 0))) hx hb (hts _ m_X8_init_4) rfl hK hP hD hS hA (fun _ => rfl) (by decide) (by decide) (by decide) (Nat.le_of_ble_eq_true rfl) (Nat.le_of_ble_eq_true rfl) dX8_init_12 (fun q1_ cA_ H hKn hP hD hS => ?_)
  obtain rfl := va_K.oneI hKn
  have hP : va_P (dC, dI) vwCl [(h, .inr (8, [.int 1, .int 0, .int 0, .null, .null, .null, .null, .null, .null, .null, .null, .null, .null, .null, .null, .null, .null])), (q1_, .inl (cy 0, 32, .inl (fun _ => 0)))] H := hP
  have hD : va_D A [(h, .inr (8, [.int 1, .int 0, .int 0, .null, .null, .null, .null, .null, .null, .null, .null, .null, .null, .null, .null, .null, .null])), (q1_, .inl (cy 0, 32, .inl (fun _ => 0)))] := hD
  refine va_putF (D := (dC, dI)) (ci := 8) (v := .ref q1_) (ty := .array .int) (C := RX8) (T := TX8) (N := 17) hx hb hts i_X8_init_X8 tyX8 tyX8_ok nmX8 hown hK hP hD hS 0 rfl rfl 3 (by decide) (hts _ m_X8_init_5) (fun _ h9 => h9) rfl hin rfl (by decide +kernel) rfl rfl (Nat.le_of_ble_eq_true rfl) dX8_init_14 (fun H locs hP hD hS => ?_)
  have hP : va_P (dC, dI) vwCl [(h, .inr (8, [.int 1, .int 0, .int 0, .ref q1_, .null, .null, .null, .null, .null, .null, .null, .null, .null, .null, .null, .null, .null])), (q1_, .inl (cy 0, 32, .inl (fun _ => 0)))] H := hP
  have hD : va_D A [(h, .inr (8, [.int 1, .int 0, .int 0, .ref q1_, .null, .null, .null, .null, .null, .null, .null, .null, .null, .null, .null, .null, .null])), (q1_, .inl (cy 0, 32, .inl (fun _ => 0)))] := hD
  refine lv_aload_n hx hb dX8_init_17 rfl (lv_at hl 0 rfl) ?_
  refine lv_sipush (v := 192) hx hb dX8_init_18 (by decide) ?_
  refine va_newa (atype := .int) (N' := 192) (a0 := (192, .inl (fun _ => 0))) hx hb (hts _ m_X8_init_4) rfl hK hP hD hS hA (fun _ => rfl) (by decide) (by decide) (by decide) (Nat.le_of_ble_eq_true rfl) (Nat.le_of_ble_eq_true rfl) dX8_init_21 (fun q2_ cA_ H hKn hP hD hS => ?_)
  obtain rfl := va_K.oneI hKn
  have hP : va_P (dC, dI) vwCl [(h, .inr (8, [.int 1, .int 0, .int 0, .ref q1_, .null, .null, .null, .null, .null, .null, .null, .null, .null, .null, .null, .null, .null])), (q1_, .inl (cy 0, 32, .inl (fun _ => 0))), (q2_, .inl (cy 0, 192, .inl (fun _ => 0)))] H := hP
  have hD : va_D A [(h, .inr (8, [.int 1, .int 0, .int 0, .ref q1_, .null, .null, .null, .null, .null, .null, .null, .null, .null, .null, .null, .null, .null])), (q1_, .inl (cy 0, 32, .inl (fun _ => 0))), (q2_, .inl (cy 0, 192, .inl (fun _ => 0)))] := hD
  refine va_putF (D := (dC, dI)) (ci := 8) (v := .ref q2_) (ty := .array .int) (C := RX8) (T := TX8) (N := 17) hx hb hts i_X8_init_X8 tyX8 tyX8_ok nmX8 hown hK hP hD hS 0 rfl rfl 4 (by decide) (hts _ m_X8_init_6) (fun _ h9 => h9) rfl hin rfl (by decide +kernel) rfl rfl (Nat.le_of_ble_eq_true rfl) dX8_init_23 (fun H locs hP hD hS => ?_)
  have hP : va_P (dC, dI) vwCl [(h, .inr (8, [.int 1, .int 0, .int 0, .ref q1_, .ref q2_, .null, .null, .null, .null, .null, .null, .null, .null, .null, .null, .null, .null])), (q1_, .inl (cy 0, 32, .inl (fun _ => 0))), (q2_, .inl (cy 0, 192, .inl (fun _ => 0)))] H := hP
  have hD : va_D A [(h, .inr (8, [.int 1, .int 0, .int 0, .ref q1_, .ref q2_, .null, .null, .null, .null, .null, .null, .null, .null, .null, .null, .null, .null])), (q1_, .inl (cy 0, 32, .inl (fun _ => 0))), (q2_, .inl (cy 0, 192, .inl (fun _ => 0)))] := hD
  refine lv_aload_n hx hb dX8_init_26 rfl (lv_at hl 0 rfl) ?_
  refine lv_bipush (v := 32) hx hb dX8_init_27 (by decide) ?_
  refine va_newa (atype := .int) (N' := 32) (a0 := (32, .inl (fun _ => 0))) hx hb (hts _ m_X8_init_4) rfl hK hP hD hS hA (fun _ => rfl) (by decide) (by decide) (by decide) (Nat.le_of_ble_eq_true rfl) (Nat.le_of_ble_eq_true rfl) dX8_init_29 (fun q3_ cA_ H hKn hP hD hS => ?_)
  obtain rfl := va_K.oneI hKn
  have hP : va_P (dC, dI) vwCl [(h, .inr (8, [.int 1, .int 0, .int 0, .ref q1_, .ref q2_, .null, .null, .null, .null, .null, .null, .null, .null, .null, .null, .null, .null])), (q1_, .inl (cy 0, 32, .inl (fun _ => 0))), (q2_, .inl (cy 0, 192, .inl (fun _ => 0))), (q3_, .inl (cy 0, 32, .inl (fun _ => 0)))] H := hP
  have hD : va_D A [(h, .inr (8, [.int 1, .int 0, .int 0, .ref q1_, .ref q2_, .null, .null, .null, .null, .null, .null, .null, .null, .null, .null, .null, .null])), (q1_, .inl (cy 0, 32, .inl (fun _ => 0))), (q2_, .inl (cy 0, 192, .inl (fun _ => 0))), (q3_, .inl (cy 0, 32, .inl (fun _ => 0)))] := hD
  refine va_putF (D := (dC, dI)) (ci := 8) (v := .ref q3_) (ty := .array .int) (C := RX8) (T := TX8) (N := 17) hx hb hts i_X8_init_X8 tyX8 tyX8_ok nmX8 hown hK hP hD hS 0 rfl rfl 5 (by decide) (hts _ m_X8_init_7) (fun _ h9 => h9) rfl hin rfl (by decide +kernel) rfl rfl (Nat.le_of_ble_eq_true rfl) dX8_init_31 (fun H locs hP hD hS => ?_)
  have hP : va_P (dC, dI) vwCl [(h, .inr (8, [.int 1, .int 0, .int 0, .ref q1_, .ref q2_, .ref q3_, .null, .null, .null, .null, .null, .null, .null, .null, .null, .null, .null])), (q1_, .inl (cy 0, 32, .inl (fun _ => 0))), (q2_, .inl (cy 0, 192, .inl (fun _ => 0))), (q3_, .inl (cy 0, 32, .inl (fun _ => 0)))] H := hP
  have hD : va_D A [(h, .inr (8, [.int 1, .int 0, .int 0, .ref q1_, .ref q2_, .ref q3_, .null, .null, .null, .null, .null, .null, .null, .null, .null, .null, .null])), (q1_, .inl (cy 0, 32, .inl (fun _ => 0))), (q2_, .inl (cy 0, 192, .inl (fun _ => 0))), (q3_, .inl (cy 0, 32, .inl (fun _ => 0)))] := hD
  refine lv_aload_n hx hb dX8_init_34 rfl (lv_at hl 0 rfl) ?_
  refine lv_bipush (v := 32) hx hb dX8_init_35 (by decide) ?_
  refine va_newa (atype := .int) (N' := 32) (a0 := (32, .inl (fun _ => 0))) hx hb (hts _ m_X8_init_4) rfl hK hP hD hS hA (fun _ => rfl) (by decide) (by decide) (by decide) (Nat.le_of_ble_eq_true rfl) (Nat.le_of_ble_eq_true rfl) dX8_init_37 (fun q4_ cA_ H hKn hP hD hS => ?_)
  obtain rfl := va_K.oneI hKn
  have hP : va_P (dC, dI) vwCl [(h, .inr (8, [.int 1, .int 0, .int 0, .ref q1_, .ref q2_, .ref q3_, .null, .null, .null, .null, .null, .null, .null, .null, .null, .null, .null])), (q1_, .inl (cy 0, 32, .inl (fun _ => 0))), (q2_, .inl (cy 0, 192, .inl (fun _ => 0))), (q3_, .inl (cy 0, 32, .inl (fun _ => 0))), (q4_, .inl (cy 0, 32, .inl (fun _ => 0)))] H := hP
  have hD : va_D A [(h, .inr (8, [.int 1, .int 0, .int 0, .ref q1_, .ref q2_, .ref q3_, .null, .null, .null, .null, .null, .null, .null, .null, .null, .null, .null])), (q1_, .inl (cy 0, 32, .inl (fun _ => 0))), (q2_, .inl (cy 0, 192, .inl (fun _ => 0))), (q3_, .inl (cy 0, 32, .inl (fun _ => 0))), (q4_, .inl (cy 0, 32, .inl (fun _ => 0)))] := hD
  refine va_putF (D := (dC, dI)) (ci := 8) (v := .ref q4_) (ty := .array .int) (C := RX8) (T := TX8) (N := 17) hx hb hts i_X8_init_X8 tyX8 tyX8_ok nmX8 hown hK hP hD hS 0 rfl rfl 6 (by decide) (hts _ m_X8_init_8) (fun _ h9 => h9) rfl hin rfl (by decide +kernel) rfl rfl (Nat.le_of_ble_eq_true rfl) dX8_init_39 (fun H locs hP hD hS => ?_)
  have hP : va_P (dC, dI) vwCl [(h, .inr (8, [.int 1, .int 0, .int 0, .ref q1_, .ref q2_, .ref q3_, .ref q4_, .null, .null, .null, .null, .null, .null, .null, .null, .null, .null])), (q1_, .inl (cy 0, 32, .inl (fun _ => 0))), (q2_, .inl (cy 0, 192, .inl (fun _ => 0))), (q3_, .inl (cy 0, 32, .inl (fun _ => 0))), (q4_, .inl (cy 0, 32, .inl (fun _ => 0)))] H := hP
  have hD : va_D A [(h, .inr (8, [.int 1, .int 0, .int 0, .ref q1_, .ref q2_, .ref q3_, .ref q4_, .null, .null, .null, .null, .null, .null, .null, .null, .null, .null])), (q1_, .inl (cy 0, 32, .inl (fun _ => 0))), (q2_, .inl (cy 0, 192, .inl (fun _ => 0))), (q3_, .inl (cy 0, 32, .inl (fun _ => 0))), (q4_, .inl (cy 0, 32, .inl (fun _ => 0)))] := hD
  refine lv_aload_n hx hb dX8_init_42 rfl (lv_at hl 0 rfl) ?_
  refine lv_bipush (v := 32) hx hb dX8_init_43 (by decide) ?_
  refine va_newa (atype := .int) (N' := 32) (a0 := (32, .inl (fun _ => 0))) hx hb (hts _ m_X8_init_4) rfl hK hP hD hS hA (fun _ => rfl) (by decide) (by decide) (by decide) (Nat.le_of_ble_eq_true rfl) (Nat.le_of_ble_eq_true rfl) dX8_init_45 (fun q5_ cA_ H hKn hP hD hS => ?_)
  obtain rfl := va_K.oneI hKn
  have hP : va_P (dC, dI) vwCl [(h, .inr (8, [.int 1, .int 0, .int 0, .ref q1_, .ref q2_, .ref q3_, .ref q4_, .null, .null, .null, .null, .null, .null, .null, .null, .null, .null])), (q1_, .inl (cy 0, 32, .inl (fun _ => 0))), (q2_, .inl (cy 0, 192, .inl (fun _ => 0))), (q3_, .inl (cy 0, 32, .inl (fun _ => 0))), (q4_, .inl (cy 0, 32, .inl (fun _ => 0))), (q5_, .inl (cy 0, 32, .inl (fun _ => 0)))] H := hP
  have hD : va_D A [(h, .inr (8, [.int 1, .int 0, .int 0, .ref q1_, .ref q2_, .ref q3_, .ref q4_, .null, .null, .null, .null, .null, .null, .null, .null, .null, .null])), (q1_, .inl (cy 0, 32, .inl (fun _ => 0))), (q2_, .inl (cy 0, 192, .inl (fun _ => 0))), (q3_, .inl (cy 0, 32, .inl (fun _ => 0))), (q4_, .inl (cy 0, 32, .inl (fun _ => 0))), (q5_, .inl (cy 0, 32, .inl (fun _ => 0)))] := hD
  refine va_putF (D := (dC, dI)) (ci := 8) (v := .ref q5_) (ty := .array .int) (C := RX8) (T := TX8) (N := 17) hx hb hts i_X8_init_X8 tyX8 tyX8_ok nmX8 hown hK hP hD hS 0 rfl rfl 7 (by decide) (hts _ m_X8_init_9) (fun _ h9 => h9) rfl hin rfl (by decide +kernel) rfl rfl (Nat.le_of_ble_eq_true rfl) dX8_init_47 (fun H locs hP hD hS => ?_)
  have hP : va_P (dC, dI) vwCl [(h, .inr (8, [.int 1, .int 0, .int 0, .ref q1_, .ref q2_, .ref q3_, .ref q4_, .ref q5_, .null, .null, .null, .null, .null, .null, .null, .null, .null])), (q1_, .inl (cy 0, 32, .inl (fun _ => 0))), (q2_, .inl (cy 0, 192, .inl (fun _ => 0))), (q3_, .inl (cy 0, 32, .inl (fun _ => 0))), (q4_, .inl (cy 0, 32, .inl (fun _ => 0))), (q5_, .inl (cy 0, 32, .inl (fun _ => 0)))] H := hP
  have hD : va_D A [(h, .inr (8, [.int 1, .int 0, .int 0, .ref q1_, .ref q2_, .ref q3_, .ref q4_, .ref q5_, .null, .null, .null, .null, .null, .null, .null, .null, .null])), (q1_, .inl (cy 0, 32, .inl (fun _ => 0))), (q2_, .inl (cy 0, 192, .inl (fun _ => 0))), (q3_, .inl (cy 0, 32, .inl (fun _ => 0))), (q4_, .inl (cy 0, 32, .inl (fun _ => 0))), (q5_, .inl (cy 0, 32, .inl (fun _ => 0)))] := hD
  refine lv_aload_n hx hb dX8_init_50 rfl (lv_at hl 0 rfl) ?_
  refine lv_bipush (v := 32) hx hb dX8_init_51 (by decide) ?_
  refine va_newa (atype := .int) (N' := 32) (a0 := (32, .inl (fun _ => 0))) hx hb (hts _ m_X8_init_4) rfl hK hP hD hS hA (fun _ => rfl) (by decide) (by decide) (by decide) (Nat.le_of_ble_eq_true rfl) (Nat.le_of_ble_eq_true rfl) dX8_init_53 (fun q6_ cA_ H hKn hP hD hS => ?_)
  obtain rfl := va_K.oneI hKn
  have hP : va_P (dC, dI) vwCl [(h, .inr (8, [.int 1, .int 0, .int 0, .ref q1_, .ref q2_, .ref q3_, .ref q4_, .ref q5_, .null, .null, .null, .null, .null, .null, .null, .null, .null])), (q1_, .inl (cy 0, 32, .inl (fun _ => 0))), (q2_, .inl (cy 0, 192, .inl (fun _ => 0))), (q3_, .inl (cy 0, 32, .inl (fun _ => 0))), (q4_, .inl (cy 0, 32, .inl (fun _ => 0))), (q5_, .inl (cy 0, 32, .inl (fun _ => 0))), (q6_, .inl (cy 0, 32, .inl (fun _ => 0)))] H := hP
  have hD : va_D A [(h, .inr (8, [.int 1, .int 0, .int 0, .ref q1_, .ref q2_, .ref q3_, .ref q4_, .ref q5_, .null, .null, .null, .null, .null, .null, .null, .null, .null])), (q1_, .inl (cy 0, 32, .inl (fun _ => 0))), (q2_, .inl (cy 0, 192, .inl (fun _ => 0))), (q3_, .inl (cy 0, 32, .inl (fun _ => 0))), (q4_, .inl (cy 0, 32, .inl (fun _ => 0))), (q5_, .inl (cy 0, 32, .inl (fun _ => 0))), (q6_, .inl (cy 0, 32, .inl (fun _ => 0)))] := hD
  refine va_putF (D := (dC, dI)) (ci := 8) (v := .ref q6_) (ty := .array .int) (C := RX8) (T := TX8) (N := 17) hx hb hts i_X8_init_X8 tyX8 tyX8_ok nmX8 hown hK hP hD hS 0 rfl rfl 8 (by decide) (hts _ m_X8_init_10) (fun _ h9 => h9) rfl hin rfl (by decide +kernel) rfl rfl (Nat.le_of_ble_eq_true rfl) dX8_init_55 (fun H locs hP hD hS => ?_)
  have hP : va_P (dC, dI) vwCl [(h, .inr (8, [.int 1, .int 0, .int 0, .ref q1_, .ref q2_, .ref q3_, .ref q4_, .ref q5_, .ref q6_, .null, .null, .null, .null, .null, .null, .null, .null])), (q1_, .inl (cy 0, 32, .inl (fun _ => 0))), (q2_, .inl (cy 0, 192, .inl (fun _ => 0))), (q3_, .inl (cy 0, 32, .inl (fun _ => 0))), (q4_, .inl (cy 0, 32, .inl (fun _ => 0))), (q5_, .inl (cy 0, 32, .inl (fun _ => 0))), (q6_, .inl (cy 0, 32, .inl (fun _ => 0)))] H := hP
  have hD : va_D A [(h, .inr (8, [.int 1, .int 0, .int 0, .ref q1_, .ref q2_, .ref q3_, .ref q4_, .ref q5_, .ref q6_, .null, .null, .null, .null, .null, .null, .null, .null])), (q1_, .inl (cy 0, 32, .inl (fun _ => 0))), (q2_, .inl (cy 0, 192, .inl (fun _ => 0))), (q3_, .inl (cy 0, 32, .inl (fun _ => 0))), (q4_, .inl (cy 0, 32, .inl (fun _ => 0))), (q5_, .inl (cy 0, 32, .inl (fun _ => 0))), (q6_, .inl (cy 0, 32, .inl (fun _ => 0)))] := hD
  refine lv_aload_n hx hb dX8_init_58 rfl (lv_at hl 0 rfl) ?_
  refine lv_bipush (v := 32) hx hb dX8_init_59 (by decide) ?_
  refine va_newa (atype := .int) (N' := 32) (a0 := (32, .inl (fun _ => 0))) hx hb (hts _ m_X8_init_4) rfl hK hP hD hS hA (fun _ => rfl) (by decide) (by decide) (by decide) (Nat.le_of_ble_eq_true rfl) (Nat.le_of_ble_eq_true rfl) dX8_init_61 (fun q7_ cA_ H hKn hP hD hS => ?_)
  obtain rfl := va_K.oneI hKn
  have hP : va_P (dC, dI) vwCl [(h, .inr (8, [.int 1, .int 0, .int 0, .ref q1_, .ref q2_, .ref q3_, .ref q4_, .ref q5_, .ref q6_, .null, .null, .null, .null, .null, .null, .null, .null])), (q1_, .inl (cy 0, 32, .inl (fun _ => 0))), (q2_, .inl (cy 0, 192, .inl (fun _ => 0))), (q3_, .inl (cy 0, 32, .inl (fun _ => 0))), (q4_, .inl (cy 0, 32, .inl (fun _ => 0))), (q5_, .inl (cy 0, 32, .inl (fun _ => 0))), (q6_, .inl (cy 0, 32, .inl (fun _ => 0))), (q7_, .inl (cy 0, 32, .inl (fun _ => 0)))] H := hP
  have hD : va_D A [(h, .inr (8, [.int 1, .int 0, .int 0, .ref q1_, .ref q2_, .ref q3_, .ref q4_, .ref q5_, .ref q6_, .null, .null, .null, .null, .null, .null, .null, .null])), (q1_, .inl (cy 0, 32, .inl (fun _ => 0))), (q2_, .inl (cy 0, 192, .inl (fun _ => 0))), (q3_, .inl (cy 0, 32, .inl (fun _ => 0))), (q4_, .inl (cy 0, 32, .inl (fun _ => 0))), (q5_, .inl (cy 0, 32, .inl (fun _ => 0))), (q6_, .inl (cy 0, 32, .inl (fun _ => 0))), (q7_, .inl (cy 0, 32, .inl (fun _ => 0)))] := hD
  refine va_putF (D := (dC, dI)) (ci := 8) (v := .ref q7_) (ty := .array .int) (C := RX8) (T := TX8) (N := 17) hx hb hts i_X8_init_X8 tyX8 tyX8_ok nmX8 hown hK hP hD hS 0 rfl rfl 9 (by decide) (hts _ m_X8_init_11) (fun _ h9 => h9) rfl hin rfl (by decide +kernel) rfl rfl (Nat.le_of_ble_eq_true rfl) dX8_init_63 (fun H locs hP hD hS => ?_)
  have hP : va_P (dC, dI) vwCl [(h, .inr (8, [.int 1, .int 0, .int 0, .ref q1_, .ref q2_, .ref q3_, .ref q4_, .ref q5_, .ref q6_, .ref q7_, .null, .null, .null, .null, .null, .null, .null])), (q1_, .inl (cy 0, 32, .inl (fun _ => 0))), (q2_, .inl (cy 0, 192, .inl (fun _ => 0))), (q3_, .inl (cy 0, 32, .inl (fun _ => 0))), (q4_, .inl (cy 0, 32, .inl (fun _ => 0))), (q5_, .inl (cy 0, 32, .inl (fun _ => 0))), (q6_, .inl (cy 0, 32, .inl (fun _ => 0))), (q7_, .inl (cy 0, 32, .inl (fun _ => 0)))] H := hP
  have hD : va_D A [(h, .inr (8, [.int 1, .int 0, .int 0, .ref q1_, .ref q2_, .ref q3_, .ref q4_, .ref q5_, .ref q6_, .ref q7_, .null, .null, .null, .null, .null, .null, .null])), (q1_, .inl (cy 0, 32, .inl (fun _ => 0))), (q2_, .inl (cy 0, 192, .inl (fun _ => 0))), (q3_, .inl (cy 0, 32, .inl (fun _ => 0))), (q4_, .inl (cy 0, 32, .inl (fun _ => 0))), (q5_, .inl (cy 0, 32, .inl (fun _ => 0))), (q6_, .inl (cy 0, 32, .inl (fun _ => 0))), (q7_, .inl (cy 0, 32, .inl (fun _ => 0)))] := hD
  refine lv_aload_n hx hb dX8_init_66 rfl (lv_at hl 0 rfl) ?_
  refine lv_sipush (v := 192) hx hb dX8_init_67 (by decide) ?_
  refine va_newa (atype := .int) (N' := 192) (a0 := (192, .inl (fun _ => 0))) hx hb (hts _ m_X8_init_4) rfl hK hP hD hS hA (fun _ => rfl) (by decide) (by decide) (by decide) (Nat.le_of_ble_eq_true rfl) (Nat.le_of_ble_eq_true rfl) dX8_init_70 (fun q8_ cA_ H hKn hP hD hS => ?_)
  obtain rfl := va_K.oneI hKn
  have hP : va_P (dC, dI) vwCl [(h, .inr (8, [.int 1, .int 0, .int 0, .ref q1_, .ref q2_, .ref q3_, .ref q4_, .ref q5_, .ref q6_, .ref q7_, .null, .null, .null, .null, .null, .null, .null])), (q1_, .inl (cy 0, 32, .inl (fun _ => 0))), (q2_, .inl (cy 0, 192, .inl (fun _ => 0))), (q3_, .inl (cy 0, 32, .inl (fun _ => 0))), (q4_, .inl (cy 0, 32, .inl (fun _ => 0))), (q5_, .inl (cy 0, 32, .inl (fun _ => 0))), (q6_, .inl (cy 0, 32, .inl (fun _ => 0))), (q7_, .inl (cy 0, 32, .inl (fun _ => 0))), (q8_, .inl (cy 0, 192, .inl (fun _ => 0)))] H := hP
  have hD : va_D A [(h, .inr (8, [.int 1, .int 0, .int 0, .ref q1_, .ref q2_, .ref q3_, .ref q4_, .ref q5_, .ref q6_, .ref q7_, .null, .null, .null, .null, .null, .null, .null])), (q1_, .inl (cy 0, 32, .inl (fun _ => 0))), (q2_, .inl (cy 0, 192, .inl (fun _ => 0))), (q3_, .inl (cy 0, 32, .inl (fun _ => 0))), (q4_, .inl (cy 0, 32, .inl (fun _ => 0))), (q5_, .inl (cy 0, 32, .inl (fun _ => 0))), (q6_, .inl (cy 0, 32, .inl (fun _ => 0))), (q7_, .inl (cy 0, 32, .inl (fun _ => 0))), (q8_, .inl (cy 0, 192, .inl (fun _ => 0)))] := hD
  refine va_putF (D := (dC, dI)) (ci := 8) (v := .ref q8_) (ty := .array .int) (C := RX8) (T := TX8) (N := 17) hx hb hts i_X8_init_X8 tyX8 tyX8_ok nmX8 hown hK hP hD hS 0 rfl rfl 10 (by decide) (hts _ m_X8_init_12) (fun _ h9 => h9) rfl hin rfl (by decide +kernel) rfl rfl (Nat.le_of_ble_eq_true rfl) dX8_init_72 (fun H locs hP hD hS => ?_)
  have hP : va_P (dC, dI) vwCl [(h, .inr (8, [.int 1, .int 0, .int 0, .ref q1_, .ref q2_, .ref q3_, .ref q4_, .ref q5_, .ref q6_, .ref q7_, .ref q8_, .null, .null, .null, .null, .null, .null])), (q1_, .inl (cy 0, 32, .inl (fun _ => 0))), (q2_, .inl (cy 0, 192, .inl (fun _ => 0))), (q3_, .inl (cy 0, 32, .inl (fun _ => 0))), (q4_, .inl (cy 0, 32, .inl (fun _ => 0))), (q5_, .inl (cy 0, 32, .inl (fun _ => 0))), (q6_, .inl (cy 0, 32, .inl (fun _ => 0))), (q7_, .inl (cy 0, 32, .inl (fun _ => 0))), (q8_, .inl (cy 0, 192, .inl (fun _ => 0)))] H := hP
  have hD : va_D A [(h, .inr (8, [.int 1, .int 0, .int 0, .ref q1_, .ref q2_, .ref q3_, .ref q4_, .ref q5_, .ref q6_, .ref q7_, .ref q8_, .null, .null, .null, .null, .null, .null])), (q1_, .inl (cy 0, 32, .inl (fun _ => 0))), (q2_, .inl (cy 0, 192, .inl (fun _ => 0))), (q3_, .inl (cy 0, 32, .inl (fun _ => 0))), (q4_, .inl (cy 0, 32, .inl (fun _ => 0))), (q5_, .inl (cy 0, 32, .inl (fun _ => 0))), (q6_, .inl (cy 0, 32, .inl (fun _ => 0))), (q7_, .inl (cy 0, 32, .inl (fun _ => 0))), (q8_, .inl (cy 0, 192, .inl (fun _ => 0)))] := hD
  refine lv_aload_n hx hb dX8_init_75 rfl (lv_at hl 0 rfl) ?_
  refine lv_sipush (v := 128) hx hb dX8_init_76 (by decide) ?_
  refine va_newa (atype := .int) (N' := 128) (a0 := (128, .inl (fun _ => 0))) hx hb (hts _ m_X8_init_4) rfl hK hP hD hS hA (fun _ => rfl) (by decide) (by decide) (by decide) (Nat.le_of_ble_eq_true rfl) (Nat.le_of_ble_eq_true rfl) dX8_init_79 (fun q9_ cA_ H hKn hP hD hS => ?_)
  obtain rfl := va_K.oneI hKn
  have hP : va_P (dC, dI) vwCl [(h, .inr (8, [.int 1, .int 0, .int 0, .ref q1_, .ref q2_, .ref q3_, .ref q4_, .ref q5_, .ref q6_, .ref q7_, .ref q8_, .null, .null, .null, .null, .null, .null])), (q1_, .inl (cy 0, 32, .inl (fun _ => 0))), (q2_, .inl (cy 0, 192, .inl (fun _ => 0))), (q3_, .inl (cy 0, 32, .inl (fun _ => 0))), (q4_, .inl (cy 0, 32, .inl (fun _ => 0))), (q5_, .inl (cy 0, 32, .inl (fun _ => 0))), (q6_, .inl (cy 0, 32, .inl (fun _ => 0))), (q7_, .inl (cy 0, 32, .inl (fun _ => 0))), (q8_, .inl (cy 0, 192, .inl (fun _ => 0))), (q9_, .inl (cy 0, 128, .inl (fun _ => 0)))] H := hP
  have hD : va_D A [(h, .inr (8, [.int 1, .int 0, .int 0, .ref q1_, .ref q2_, .ref q3_, .ref q4_, .ref q5_, .ref q6_, .ref q7_, .ref q8_, .null, .null, .null, .null, .null, .null])), (q1_, .inl (cy 0, 32, .inl (fun _ => 0))), (q2_, .inl (cy 0, 192, .inl (fun _ => 0))), (q3_, .inl (cy 0, 32, .inl (fun _ => 0))), (q4_, .inl (cy 0, 32, .inl (fun _ => 0))), (q5_, .inl (cy 0, 32, .inl (fun _ => 0))), (q6_, .inl (cy 0, 32, .inl (fun _ => 0))), (q7_, .inl (cy 0, 32, .inl (fun _ => 0))), (q8_, .inl (cy 0, 192, .inl (fun _ => 0))), (q9_, .inl (cy 0, 128, .inl (fun _ => 0)))] := hD
  refine va_putF (D := (dC, dI)) (ci := 8) (v := .ref q9_) (ty := .array .int) (C := RX8) (T := TX8) (N := 17) hx hb hts i_X8_init_X8 tyX8 tyX8_ok nmX8 hown hK hP hD hS 0 rfl rfl 11 (by decide) (hts _ m_X8_init_13) (fun _ h9 => h9) rfl hin rfl (by decide +kernel) rfl rfl (Nat.le_of_ble_eq_true rfl) dX8_init_81 (fun H locs hP hD hS => ?_)
  have hP : va_P (dC, dI) vwCl [(h, .inr (8, [.int 1, .int 0, .int 0, .ref q1_, .ref q2_, .ref q3_, .ref q4_, .ref q5_, .ref q6_, .ref q7_, .ref q8_, .ref q9_, .null, .null, .null, .null, .null])), (q1_, .inl (cy 0, 32, .inl (fun _ => 0))), (q2_, .inl (cy 0, 192, .inl (fun _ => 0))), (q3_, .inl (cy 0, 32, .inl (fun _ => 0))), (q4_, .inl (cy 0, 32, .inl (fun _ => 0))), (q5_, .inl (cy 0, 32, .inl (fun _ => 0))), (q6_, .inl (cy 0, 32, .inl (fun _ => 0))), (q7_, .inl (cy 0, 32, .inl (fun _ => 0))), (q8_, .inl (cy 0, 192, .inl (fun _ => 0))), (q9_, .inl (cy 0, 128, .inl (fun _ => 0)))] H := hP
  have hD : va_D A [(h, .inr (8, [.int 1, .int 0, .int 0, .ref q1_, .ref q2_, .ref q3_, .ref q4_, .ref q5_, .ref q6_, .ref q7_, .ref q8_, .ref q9_, .null, .null, .null, .null, .null])), (q1_, .inl (cy 0, 32, .inl (fun _ => 0))), (q2_, .inl (cy 0, 192, .inl (fun _ => 0))), (q3_, .inl (cy 0, 32, .inl (fun _ => 0))), (q4_, .inl (cy 0, 32, .inl (fun _ => 0))), (q5_, .inl (cy 0, 32, .inl (fun _ => 0))), (q6_, .inl (cy 0, 32, .inl (fun _ => 0))), (q7_, .inl (cy 0, 32, .inl (fun _ => 0))), (q8_, .inl (cy 0, 192, .inl (fun _ => 0))), (q9_, .inl (cy 0, 128, .inl (fun _ => 0)))] := hD
  refine lv_aload_n hx hb dX8_init_84 rfl (lv_at hl 0 rfl) ?_
  refine lv_bipush (v := 32) hx hb dX8_init_85 (by decide) ?_
  refine va_newa (atype := .int) (N' := 32) (a0 := (32, .inl (fun _ => 0))) hx hb (hts _ m_X8_init_4) rfl hK hP hD hS hA (fun _ => rfl) (by decide) (by decide) (by decide) (Nat.le_of_ble_eq_true rfl) (Nat.le_of_ble_eq_true rfl) dX8_init_87 (fun q10_ cA_ H hKn hP hD hS => ?_)
  obtain rfl := va_K.oneI hKn
  have hP : va_P (dC, dI) vwCl [(h, .inr (8, [.int 1, .int 0, .int 0, .ref q1_, .ref q2_, .ref q3_, .ref q4_, .ref q5_, .ref q6_, .ref q7_, .ref q8_, .ref q9_, .null, .null, .null, .null, .null])), (q1_, .inl (cy 0, 32, .inl (fun _ => 0))), (q2_, .inl (cy 0, 192, .inl (fun _ => 0))), (q3_, .inl (cy 0, 32, .inl (fun _ => 0))), (q4_, .inl (cy 0, 32, .inl (fun _ => 0))), (q5_, .inl (cy 0, 32, .inl (fun _ => 0))), (q6_, .inl (cy 0, 32, .inl (fun _ => 0))), (q7_, .inl (cy 0, 32, .inl (fun _ => 0))), (q8_, .inl (cy 0, 192, .inl (fun _ => 0))), (q9_, .inl (cy 0, 128, .inl (fun _ => 0))), (q10_, .inl (cy 0, 32, .inl (fun _ => 0)))] H := hP
  have hD : va_D A [(h, .inr (8, [.int 1, .int 0, .int 0, .ref q1_, .ref q2_, .ref q3_, .ref q4_, .ref q5_, .ref q6_, .ref q7_, .ref q8_, .ref q9_, .null, .null, .null, .null, .null])), (q1_, .inl (cy 0, 32, .inl (fun _ => 0))), (q2_, .inl (cy 0, 192, .inl (fun _ => 0))), (q3_, .inl (cy 0, 32, .inl (fun _ => 0))), (q4_, .inl (cy 0, 32, .inl (fun _ => 0))), (q5_, .inl (cy 0, 32, .inl (fun _ => 0))), (q6_, .inl (cy 0, 32, .inl (fun _ => 0))), (q7_, .inl (cy 0, 32, .inl (fun _ => 0))), (q8_, .inl (cy 0, 192, .inl (fun _ => 0))), (q9_, .inl (cy 0, 128, .inl (fun _ => 0))), (q10_, .inl (cy 0, 32, .inl (fun _ => 0)))] := hD
  refine va_putF (D := (dC, dI)) (ci := 8) (v := .ref q10_) (ty := .array .int) (C := RX8) (T := TX8) (N := 17) hx hb hts i_X8_init_X8 tyX8 tyX8_ok nmX8 hown hK hP hD hS 0 rfl rfl 12 (by decide) (hts _ m_X8_init_14) (fun _ h9 => h9) rfl hin rfl (by decide +kernel) rfl rfl (Nat.le_of_ble_eq_true rfl) dX8_init_89 (fun H locs hP hD hS => ?_)
  have hP : va_P (dC, dI) vwCl [(h, .inr (8, [.int 1, .int 0, .int 0, .ref q1_, .ref q2_, .ref q3_, .ref q4_, .ref q5_, .ref q6_, .ref q7_, .ref q8_, .ref q9_, .ref q10_, .null, .null, .null, .null])), (q1_, .inl (cy 0, 32, .inl (fun _ => 0))), (q2_, .inl (cy 0, 192, .inl (fun _ => 0))), (q3_, .inl (cy 0, 32, .inl (fun _ => 0))), (q4_, .inl (cy 0, 32, .inl (fun _ => 0))), (q5_, .inl (cy 0, 32, .inl (fun _ => 0))), (q6_, .inl (cy 0, 32, .inl (fun _ => 0))), (q7_, .inl (cy 0, 32, .inl (fun _ => 0))), (q8_, .inl (cy 0, 192, .inl (fun _ => 0))), (q9_, .inl (cy 0, 128, .inl (fun _ => 0))), (q10_, .inl (cy 0, 32, .inl (fun _ => 0)))] H := hP
  have hD : va_D A [(h, .inr (8, [.int 1, .int 0, .int 0, .ref q1_, .ref q2_, .ref q3_, .ref q4_, .ref q5_, .ref q6_, .ref q7_, .ref q8_, .ref q9_, .ref q10_, .null, .null, .null, .null])), (q1_, .inl (cy 0, 32, .inl (fun _ => 0))), (q2_, .inl (cy 0, 192, .inl (fun _ => 0))), (q3_, .inl (cy 0, 32, .inl (fun _ => 0))), (q4_, .inl (cy 0, 32, .inl (fun _ => 0))), (q5_, .inl (cy 0, 32, .inl (fun _ => 0))), (q6_, .inl (cy 0, 32, .inl (fun _ => 0))), (q7_, .inl (cy 0, 32, .inl (fun _ => 0))), (q8_, .inl (cy 0, 192, .inl (fun _ => 0))), (q9_, .inl (cy 0, 128, .inl (fun _ => 0))), (q10_, .inl (cy 0, 32, .inl (fun _ => 0)))] := hD
  refine lv_aload_n hx hb dX8_init_92 rfl (lv_at hl 0 rfl) ?_
  refine lv_sipush (v := 192) hx hb dX8_init_93 (by decide) ?_
  refine va_newa (atype := .int) (N' := 192) (a0 := (192, .inl (fun _ => 0))) hx hb (hts _ m_X8_init_4) rfl hK hP hD hS hA (fun _ => rfl) (by decide) (by decide) (by decide) (Nat.le_of_ble_eq_true rfl) (Nat.le_of_ble_eq_true rfl) dX8_init_96 (fun q11_ cA_ H hKn hP hD hS => ?_)
  obtain rfl := va_K.oneI hKn
  have hP : va_P (dC, dI) vwCl [(h, .inr (8, [.int 1, .int 0, .int 0, .ref q1_, .ref q2_, .ref q3_, .ref q4_, .ref q5_, .ref q6_, .ref q7_, .ref q8_, .ref q9_, .ref q10_, .null, .null, .null, .null])), (q1_, .inl (cy 0, 32, .inl (fun _ => 0))), (q2_, .inl (cy 0, 192, .inl (fun _ => 0))), (q3_, .inl (cy 0, 32, .inl (fun _ => 0))), (q4_, .inl (cy 0, 32, .inl (fun _ => 0))), (q5_, .inl (cy 0, 32, .inl (fun _ => 0))), (q6_, .inl (cy 0, 32, .inl (fun _ => 0))), (q7_, .inl (cy 0, 32, .inl (fun _ => 0))), (q8_, .inl (cy 0, 192, .inl (fun _ => 0))), (q9_, .inl (cy 0, 128, .inl (fun _ => 0))), (q10_, .inl (cy 0, 32, .inl (fun _ => 0))), (q11_, .inl (cy 0, 192, .inl (fun _ => 0)))] H := hP
  have hD : va_D A [(h, .inr (8, [.int 1, .int 0, .int 0, .ref q1_, .ref q2_, .ref q3_, .ref q4_, .ref q5_, .ref q6_, .ref q7_, .ref q8_, .ref q9_, .ref q10_, .null, .null, .null, .null])), (q1_, .inl (cy 0, 32, .inl (fun _ => 0))), (q2_, .inl (cy 0, 192, .inl (fun _ => 0))), (q3_, .inl (cy 0, 32, .inl (fun _ => 0))), (q4_, .inl (cy 0, 32, .inl (fun _ => 0))), (q5_, .inl (cy 0, 32, .inl (fun _ => 0))), (q6_, .inl (cy 0, 32, .inl (fun _ => 0))), (q7_, .inl (cy 0, 32, .inl (fun _ => 0))), (q8_, .inl (cy 0, 192, .inl (fun _ => 0))), (q9_, .inl (cy 0, 128, .inl (fun _ => 0))), (q10_, .inl (cy 0, 32, .inl (fun _ => 0))), (q11_, .inl (cy 0, 192, .inl (fun _ => 0)))] := hD
  refine va_putF (D := (dC, dI)) (ci := 8) (v := .ref q11_) (ty := .array .int) (C := RX8) (T := TX8) (N := 17) hx hb hts i_X8_init_X8 tyX8 tyX8_ok nmX8 hown hK hP hD hS 0 rfl rfl 13 (by decide) (hts _ m_X8_init_15) (fun _ h9 => h9) rfl hin rfl (by decide +kernel) rfl rfl (Nat.le_of_ble_eq_true rfl) dX8_init_98 (fun H locs hP hD hS => ?_)
  have hP : va_P (dC, dI) vwCl [(h, .inr (8, [.int 1, .int 0, .int 0, .ref q1_, .ref q2_, .ref q3_, .ref q4_, .ref q5_, .ref q6_, .ref q7_, .ref q8_, .ref q9_, .ref q10_, .ref q11_, .null, .null, .null])), (q1_, .inl (cy 0, 32, .inl (fun _ => 0))), (q2_, .inl (cy 0, 192, .inl (fun _ => 0))), (q3_, .inl (cy 0, 32, .inl (fun _ => 0))), (q4_, .inl (cy 0, 32, .inl (fun _ => 0))), (q5_, .inl (cy 0, 32, .inl (fun _ => 0))), (q6_, .inl (cy 0, 32, .inl (fun _ => 0))), (q7_, .inl (cy 0, 32, .inl (fun _ => 0))), (q8_, .inl (cy 0, 192, .inl (fun _ => 0))), (q9_, .inl (cy 0, 128, .inl (fun _ => 0))), (q10_, .inl (cy 0, 32, .inl (fun _ => 0))), (q11_, .inl (cy 0, 192, .inl (fun _ => 0)))] H := hP
  have hD : va_D A [(h, .inr (8, [.int 1, .int 0, .int 0, .ref q1_, .ref q2_, .ref q3_, .ref q4_, .ref q5_, .ref q6_, .ref q7_, .ref q8_, .ref q9_, .ref q10_, .ref q11_, .null, .null, .null])), (q1_, .inl (cy 0, 32, .inl (fun _ => 0))), (q2_, .inl (cy 0, 192, .inl (fun _ => 0))), (q3_, .inl (cy 0, 32, .inl (fun _ => 0))), (q4_, .inl (cy 0, 32, .inl (fun _ => 0))), (q5_, .inl (cy 0, 32, .inl (fun _ => 0))), (q6_, .inl (cy 0, 32, .inl (fun _ => 0))), (q7_, .inl (cy 0, 32, .inl (fun _ => 0))), (q8_, .inl (cy 0, 192, .inl (fun _ => 0))), (q9_, .inl (cy 0, 128, .inl (fun _ => 0))), (q10_, .inl (cy 0, 32, .inl (fun _ => 0))), (q11_, .inl (cy 0, 192, .inl (fun _ => 0)))] := hD
  refine lv_aload_n hx hb dX8_init_101 rfl (lv_at hl 0 rfl) ?_
  refine va_new (ci := 6) (fs := [.null, .int 0, .int 0, .int 0]) (C := RX6) (T := TX6) (N := 4) hx hb hts i_X8_init_X6 tyX6 tyX6_ok hown (hts _ m_X8_init_16) (hts _ m_X8_init_17) (hts _ m_X8_init_18) hK hP hD hS hA rfl tfX6 (Nat.le_of_ble_eq_true rfl) (Nat.le_of_ble_eq_true rfl) dX8_init_102 (fun q12_ H hP hD hS => ?_)
  have hP : va_P (dC, dI) vwCl [(h, .inr (8, [.int 1, .int 0, .int 0, .ref q1_, .ref q2_, .ref q3_, .ref q4_, .ref q5_, .ref q6_, .ref q7_, .ref q8_, .ref q9_, .ref q10_, .ref q11_, .null, .null, .null])), (q1_, .inl (cy 0, 32, .inl (fun _ => 0))), (q2_, .inl (cy 0, 192, .inl (fun _ => 0))), (q3_, .inl (cy 0, 32, .inl (fun _ => 0))), (q4_, .inl (cy 0, 32, .inl (fun _ => 0))), (q5_, .inl (cy 0, 32, .inl (fun _ => 0))), (q6_, .inl (cy 0, 32, .inl (fun _ => 0))), (q7_, .inl (cy 0, 32, .inl (fun _ => 0))), (q8_, .inl (cy 0, 192, .inl (fun _ => 0))), (q9_, .inl (cy 0, 128, .inl (fun _ => 0))), (q10_, .inl (cy 0, 32, .inl (fun _ => 0))), (q11_, .inl (cy 0, 192, .inl (fun _ => 0))), (q12_, .inr (6, [.null, .int 0, .int 0, .int 0]))] H := hP
  have hD : va_D A [(h, .inr (8, [.int 1, .int 0, .int 0, .ref q1_, .ref q2_, .ref q3_, .ref q4_, .ref q5_, .ref q6_, .ref q7_, .ref q8_, .ref q9_, .ref q10_, .ref q11_, .null, .null, .null])), (q1_, .inl (cy 0, 32, .inl (fun _ => 0))), (q2_, .inl (cy 0, 192, .inl (fun _ => 0))), (q3_, .inl (cy 0, 32, .inl (fun _ => 0))), (q4_, .inl (cy 0, 32, .inl (fun _ => 0))), (q5_, .inl (cy 0, 32, .inl (fun _ => 0))), (q6_, .inl (cy 0, 32, .inl (fun _ => 0))), (q7_, .inl (cy 0, 32, .inl (fun _ => 0))), (q8_, .inl (cy 0, 192, .inl (fun _ => 0))), (q9_, .inl (cy 0, 128, .inl (fun _ => 0))), (q10_, .inl (cy 0, 32, .inl (fun _ => 0))), (q11_, .inl (cy 0, 192, .inl (fun _ => 0))), (q12_, .inr (6, [.null, .int 0, .int 0, .int 0]))] := hD
  refine lv_dup hx hb dX8_init_105 rfl ?_
  have hPc : va_P (dC, dI) vwCl ([(q12_, .inr (6, [.null, .int 0, .int 0, .int 0]))]) _ := hP.sub [12] rfl
  have hDc := hD.sub (ws' := [(q12_, .inr (6, [.null, .int 0, .int 0, .int 0]))]) [12] (by decide) rfl
  have hFc := va_free (wc := [(q12_, .inr (6, [.null, .int 0, .int 0, .int 0]))]) hD hS hA [12] rfl
  refine va_callv (va_runIN (As := []) (rest := [.ref q12_, .ref h]) ⟨hx, hb, hml, hown, hts⟩ (c_X6_init l dC dI cy q12_ _) ⟨va_cnB 0 hts g_X8_init_X6_init_51 rfl rfl rfl hC.2.1 (hts _ m_X8_init_18) (by decide +kernel) ⟨Nat.le_of_ble_eq_true rfl, Nat.le_of_ble_eq_true rfl⟩, rfl, hts _ m_X8_init_19⟩ (pS_ps hC hPc hDc) rfl rfl hl.1 rfl (lv_room (Nat.le_of_ble_eq_true rfl)) dX8_init_106 ⟨Nat.le_of_ble_eq_true rfl, Nat.le_of_ble_eq_true rfl⟩) hS (fun q _ h => hFc q h) hFc (fun u t_ H1 locs ht hvm hw hB hz1 hk1 hS => ?_)
  obtain ⟨u13_, rfl⟩ : ∃ z, z = u := ⟨_, rfl⟩
  obtain ⟨hP1, hD1⟩ := hB
  rw [ht] at hP1
  obtain ⟨hP, hD⟩ := va_join (wr := [(h, .inr (8, [.int 1, .int 0, .int 0, .ref q1_, .ref q2_, .ref q3_, .ref q4_, .ref q5_, .ref q6_, .ref q7_, .ref q8_, .ref q9_, .ref q10_, .ref q11_, .null, .null, .null])), (q1_, .inl (cy 0, 32, .inl (fun _ => 0))), (q2_, .inl (cy 0, 192, .inl (fun _ => 0))), (q3_, .inl (cy 0, 32, .inl (fun _ => 0))), (q4_, .inl (cy 0, 32, .inl (fun _ => 0))), (q5_, .inl (cy 0, 32, .inl (fun _ => 0))), (q6_, .inl (cy 0, 32, .inl (fun _ => 0))), (q7_, .inl (cy 0, 32, .inl (fun _ => 0))), (q8_, .inl (cy 0, 192, .inl (fun _ => 0))), (q9_, .inl (cy 0, 128, .inl (fun _ => 0))), (q10_, .inl (cy 0, 32, .inl (fun _ => 0))), (q11_, .inl (cy 0, 192, .inl (fun _ => 0)))]) (w1 := [(q12_, .inr (6, [.ref (u13_.1 0), .int 0, .int 0, .int 0])), (u13_.1 0, .inl (cy 0, 40, .inl (fun _ => 0)))]) hP hD [12] [0, 1, 2, 3, 4, 5, 6, 7, 8, 9, 10, 11] rfl rfl (by decide) (by decide) hk1 hFc hP1 hD1
  generalize H1 = H at hP hS ⊢
  have hP : va_P (dC, dI) vwCl ([(h, .inr (8, [.int 1, .int 0, .int 0, .ref q1_, .ref q2_, .ref q3_, .ref q4_, .ref q5_, .ref q6_, .ref q7_, .ref q8_, .ref q9_, .ref q10_, .ref q11_, .null, .null, .null])), (q1_, .inl (cy 0, 32, .inl (fun _ => 0))), (q2_, .inl (cy 0, 192, .inl (fun _ => 0))), (q3_, .inl (cy 0, 32, .inl (fun _ => 0))), (q4_, .inl (cy 0, 32, .inl (fun _ => 0))), (q5_, .inl (cy 0, 32, .inl (fun _ => 0))), (q6_, .inl (cy 0, 32, .inl (fun _ => 0))), (q7_, .inl (cy 0, 32, .inl (fun _ => 0))), (q8_, .inl (cy 0, 192, .inl (fun _ => 0))), (q9_, .inl (cy 0, 128, .inl (fun _ => 0))), (q10_, .inl (cy 0, 32, .inl (fun _ => 0))), (q11_, .inl (cy 0, 192, .inl (fun _ => 0))), (q12_, .inr (6, [.ref (u13_.1 0), .int 0, .int 0, .int 0])), (u13_.1 0, .inl (cy 0, 40, .inl (fun _ => 0)))]) H := hP
  have hD : va_D A ([(h, .inr (8, [.int 1, .int 0, .int 0, .ref q1_, .ref q2_, .ref q3_, .ref q4_, .ref q5_, .ref q6_, .ref q7_, .ref q8_, .ref q9_, .ref q10_, .ref q11_, .null, .null, .null])), (q1_, .inl (cy 0, 32, .inl (fun _ => 0))), (q2_, .inl (cy 0, 192, .inl (fun _ => 0))), (q3_, .inl (cy 0, 32, .inl (fun _ => 0))), (q4_, .inl (cy 0, 32, .inl (fun _ => 0))), (q5_, .inl (cy 0, 32, .inl (fun _ => 0))), (q6_, .inl (cy 0, 32, .inl (fun _ => 0))), (q7_, .inl (cy 0, 32, .inl (fun _ => 0))), (q8_, .inl (cy 0, 192, .inl (fun _ => 0))), (q9_, .inl (cy 0, 128, .inl (fun _ => 0))), (q10_, .inl (cy 0, 32, .inl (fun _ => 0))), (q11_, .inl (cy 0, 192, .inl (fun _ => 0))), (q12_, .inr (6, [.ref (u13_.1 0), .int 0, .int 0, .int 0])), (u13_.1 0, .inl (cy 0, 40, .inl (fun _ => 0)))]) := hD
  refine va_putF (D := (dC, dI)) (ci := 8) (v := .ref q12_) (ty := .object "RestBoard$Registers") (C := RX8) (T := TX8) (N := 17) hx hb hts i_X8_init_X8 tyX8 tyX8_ok nmX8 hown hK hP hD hS 0 rfl rfl 14 (by decide) (hts _ m_X8_init_20) (fun _ h9 => h9) rfl hin rfl (by decide +kernel) rfl rfl (Nat.le_of_ble_eq_true rfl) dX8_init_109 (fun H locs hP hD hS => ?_)
  have hP : va_P (dC, dI) vwCl [(h, .inr (8, [.int 1, .int 0, .int 0, .ref q1_, .ref q2_, .ref q3_, .ref q4_, .ref q5_, .ref q6_, .ref q7_, .ref q8_, .ref q9_, .ref q10_, .ref q11_, .ref q12_, .null, .null])), (q1_, .inl (cy 0, 32, .inl (fun _ => 0))), (q2_, .inl (cy 0, 192, .inl (fun _ => 0))), (q3_, .inl (cy 0, 32, .inl (fun _ => 0))), (q4_, .inl (cy 0, 32, .inl (fun _ => 0))), (q5_, .inl (cy 0, 32, .inl (fun _ => 0))), (q6_, .inl (cy 0, 32, .inl (fun _ => 0))), (q7_, .inl (cy 0, 32, .inl (fun _ => 0))), (q8_, .inl (cy 0, 192, .inl (fun _ => 0))), (q9_, .inl (cy 0, 128, .inl (fun _ => 0))), (q10_, .inl (cy 0, 32, .inl (fun _ => 0))), (q11_, .inl (cy 0, 192, .inl (fun _ => 0))), (q12_, .inr (6, [.ref (u13_.1 0), .int 0, .int 0, .int 0])), (u13_.1 0, .inl (cy 0, 40, .inl (fun _ => 0)))] H := hP
  have hD : va_D A [(h, .inr (8, [.int 1, .int 0, .int 0, .ref q1_, .ref q2_, .ref q3_, .ref q4_, .ref q5_, .ref q6_, .ref q7_, .ref q8_, .ref q9_, .ref q10_, .ref q11_, .ref q12_, .null, .null])), (q1_, .inl (cy 0, 32, .inl (fun _ => 0))), (q2_, .inl (cy 0, 192, .inl (fun _ => 0))), (q3_, .inl (cy 0, 32, .inl (fun _ => 0))), (q4_, .inl (cy 0, 32, .inl (fun _ => 0))), (q5_, .inl (cy 0, 32, .inl (fun _ => 0))), (q6_, .inl (cy 0, 32, .inl (fun _ => 0))), (q7_, .inl (cy 0, 32, .inl (fun _ => 0))), (q8_, .inl (cy 0, 192, .inl (fun _ => 0))), (q9_, .inl (cy 0, 128, .inl (fun _ => 0))), (q10_, .inl (cy 0, 32, .inl (fun _ => 0))), (q11_, .inl (cy 0, 192, .inl (fun _ => 0))), (q12_, .inr (6, [.ref (u13_.1 0), .int 0, .int 0, .int 0])), (u13_.1 0, .inl (cy 0, 40, .inl (fun _ => 0)))] := hD
  refine lv_aload_n hx hb dX8_init_112 rfl (lv_at hl 0 rfl) ?_
  refine va_new (ci := 2) (fs := [.null, .null, .int 0, .int 0]) (C := RX2) (T := TX2) (N := 4) hx hb hts i_X8_init_X2 tyX2 tyX2_ok hown (hts _ m_X8_init_21) (hts _ m_X8_init_22) (hts _ m_X8_init_23) hK hP hD hS hA rfl tfX2 (Nat.le_of_ble_eq_true rfl) (Nat.le_of_ble_eq_true rfl) dX8_init_113 (fun q14_ H hP hD hS => ?_)
  have hP : va_P (dC, dI) vwCl [(h, .inr (8, [.int 1, .int 0, .int 0, .ref q1_, .ref q2_, .ref q3_, .ref q4_, .ref q5_, .ref q6_, .ref q7_, .ref q8_, .ref q9_, .ref q10_, .ref q11_, .ref q12_, .null, .null])), (q1_, .inl (cy 0, 32, .inl (fun _ => 0))), (q2_, .inl (cy 0, 192, .inl (fun _ => 0))), (q3_, .inl (cy 0, 32, .inl (fun _ => 0))), (q4_, .inl (cy 0, 32, .inl (fun _ => 0))), (q5_, .inl (cy 0, 32, .inl (fun _ => 0))), (q6_, .inl (cy 0, 32, .inl (fun _ => 0))), (q7_, .inl (cy 0, 32, .inl (fun _ => 0))), (q8_, .inl (cy 0, 192, .inl (fun _ => 0))), (q9_, .inl (cy 0, 128, .inl (fun _ => 0))), (q10_, .inl (cy 0, 32, .inl (fun _ => 0))), (q11_, .inl (cy 0, 192, .inl (fun _ => 0))), (q12_, .inr (6, [.ref (u13_.1 0), .int 0, .int 0, .int 0])), (u13_.1 0, .inl (cy 0, 40, .inl (fun _ => 0))), (q14_, .inr (2, [.null, .null, .int 0, .int 0]))] H := hP
  have hD : va_D A [(h, .inr (8, [.int 1, .int 0, .int 0, .ref q1_, .ref q2_, .ref q3_, .ref q4_, .ref q5_, .ref q6_, .ref q7_, .ref q8_, .ref q9_, .ref q10_, .ref q11_, .ref q12_, .null, .null])), (q1_, .inl (cy 0, 32, .inl (fun _ => 0))), (q2_, .inl (cy 0, 192, .inl (fun _ => 0))), (q3_, .inl (cy 0, 32, .inl (fun _ => 0))), (q4_, .inl (cy 0, 32, .inl (fun _ => 0))), (q5_, .inl (cy 0, 32, .inl (fun _ => 0))), (q6_, .inl (cy 0, 32, .inl (fun _ => 0))), (q7_, .inl (cy 0, 32, .inl (fun _ => 0))), (q8_, .inl (cy 0, 192, .inl (fun _ => 0))), (q9_, .inl (cy 0, 128, .inl (fun _ => 0))), (q10_, .inl (cy 0, 32, .inl (fun _ => 0))), (q11_, .inl (cy 0, 192, .inl (fun _ => 0))), (q12_, .inr (6, [.ref (u13_.1 0), .int 0, .int 0, .int 0])), (u13_.1 0, .inl (cy 0, 40, .inl (fun _ => 0))), (q14_, .inr (2, [.null, .null, .int 0, .int 0]))] := hD
  refine lv_dup hx hb dX8_init_116 rfl ?_
  refine lv_bipush (v := 16) hx hb dX8_init_117 (by decide) ?_
  have hPc : va_P (dC, dI) vwCl ([(q14_, .inr (2, [.null, .null, .int 0, .int 0]))]) _ := hP.sub [14] rfl
  have hDc := hD.sub (ws' := [(q14_, .inr (2, [.null, .null, .int 0, .int 0]))]) [14] (by decide) rfl
  have hFc := va_free (wc := [(q14_, .inr (2, [.null, .null, .int 0, .int 0]))]) hD hS hA [14] rfl
  refine va_callv (va_runI (As := [.int 16]) (rest := [.ref q14_, .ref h]) ⟨hx, hb, hml, hown, hts⟩ (c_X2_init_16 l dC dI cy q14_ _) (cwI 1 hts g_X8_init_X2_init_58 rfl rfl rfl (hts _ m_X8_init_23) (hts _ m_X8_init_24) (hts _ m_X8_init_25) rfl (by decide +kernel) ⟨Nat.le_of_ble_eq_true rfl, Nat.le_of_ble_eq_true rfl⟩) (pS_ps hC hPc hDc) rfl rfl hl.1 rfl (lv_room (Nat.le_of_ble_eq_true rfl)) dX8_init_119 ⟨Nat.le_of_ble_eq_true rfl, Nat.le_of_ble_eq_true rfl⟩) hS (fun q _ h => hFc q h) hFc (fun u t_ H1 locs ht hvm hw hB hz1 hk1 hS => ?_)
  obtain ⟨u15_, rfl⟩ : ∃ z, z = u := ⟨_, rfl⟩
  obtain ⟨hP1, hD1⟩ := hB
  rw [ht] at hP1
  obtain ⟨hP, hD⟩ := va_join (wr := [(h, .inr (8, [.int 1, .int 0, .int 0, .ref q1_, .ref q2_, .ref q3_, .ref q4_, .ref q5_, .ref q6_, .ref q7_, .ref q8_, .ref q9_, .ref q10_, .ref q11_, .ref q12_, .null, .null])), (q1_, .inl (cy 0, 32, .inl (fun _ => 0))), (q2_, .inl (cy 0, 192, .inl (fun _ => 0))), (q3_, .inl (cy 0, 32, .inl (fun _ => 0))), (q4_, .inl (cy 0, 32, .inl (fun _ => 0))), (q5_, .inl (cy 0, 32, .inl (fun _ => 0))), (q6_, .inl (cy 0, 32, .inl (fun _ => 0))), (q7_, .inl (cy 0, 32, .inl (fun _ => 0))), (q8_, .inl (cy 0, 192, .inl (fun _ => 0))), (q9_, .inl (cy 0, 128, .inl (fun _ => 0))), (q10_, .inl (cy 0, 32, .inl (fun _ => 0))), (q11_, .inl (cy 0, 192, .inl (fun _ => 0))), (q12_, .inr (6, [.ref (u13_.1 0), .int 0, .int 0, .int 0])), (u13_.1 0, .inl (cy 0, 40, .inl (fun _ => 0)))]) (w1 := [(q14_, .inr (2, [.ref (u15_.1 0), .ref (u15_.1 1), .int 0, .int 0])), (u15_.1 0, .inl (cy 0, 16, .inl (fun _ => 0))), (u15_.1 1, .inl (cy 0, 16, .inl (fun _ => 0)))]) hP hD [14] [0, 1, 2, 3, 4, 5, 6, 7, 8, 9, 10, 11, 12, 13] rfl rfl (by decide) (by decide) hk1 hFc hP1 hD1
  generalize H1 = H at hP hS ⊢
  have hP : va_P (dC, dI) vwCl ([(h, .inr (8, [.int 1, .int 0, .int 0, .ref q1_, .ref q2_, .ref q3_, .ref q4_, .ref q5_, .ref q6_, .ref q7_, .ref q8_, .ref q9_, .ref q10_, .ref q11_, .ref q12_, .null, .null])), (q1_, .inl (cy 0, 32, .inl (fun _ => 0))), (q2_, .inl (cy 0, 192, .inl (fun _ => 0))), (q3_, .inl (cy 0, 32, .inl (fun _ => 0))), (q4_, .inl (cy 0, 32, .inl (fun _ => 0))), (q5_, .inl (cy 0, 32, .inl (fun _ => 0))), (q6_, .inl (cy 0, 32, .inl (fun _ => 0))), (q7_, .inl (cy 0, 32, .inl (fun _ => 0))), (q8_, .inl (cy 0, 192, .inl (fun _ => 0))), (q9_, .inl (cy 0, 128, .inl (fun _ => 0))), (q10_, .inl (cy 0, 32, .inl (fun _ => 0))), (q11_, .inl (cy 0, 192, .inl (fun _ => 0))), (q12_, .inr (6, [.ref (u13_.1 0), .int 0, .int 0, .int 0])), (u13_.1 0, .inl (cy 0, 40, .inl (fun _ => 0))), (q14_, .inr (2, [.ref (u15_.1 0), .ref (u15_.1 1), .int 0, .int 0])), (u15_.1 0, .inl (cy 0, 16, .inl (fun _ => 0))), (u15_.1 1, .inl (cy 0, 16, .inl (fun _ => 0)))]) H := hP
  have hD : va_D A ([(h, .inr (8, [.int 1, .int 0, .int 0, .ref q1_, .ref q2_, .ref q3_, .ref q4_, .ref q5_, .ref q6_, .ref q7_, .ref q8_, .ref q9_, .ref q10_, .ref q11_, .ref q12_, .null, .null])), (q1_, .inl (cy 0, 32, .inl (fun _ => 0))), (q2_, .inl (cy 0, 192, .inl (fun _ => 0))), (q3_, .inl (cy 0, 32, .inl (fun _ => 0))), (q4_, .inl (cy 0, 32, .inl (fun _ => 0))), (q5_, .inl (cy 0, 32, .inl (fun _ => 0))), (q6_, .inl (cy 0, 32, .inl (fun _ => 0))), (q7_, .inl (cy 0, 32, .inl (fun _ => 0))), (q8_, .inl (cy 0, 192, .inl (fun _ => 0))), (q9_, .inl (cy 0, 128, .inl (fun _ => 0))), (q10_, .inl (cy 0, 32, .inl (fun _ => 0))), (q11_, .inl (cy 0, 192, .inl (fun _ => 0))), (q12_, .inr (6, [.ref (u13_.1 0), .int 0, .int 0, .int 0])), (u13_.1 0, .inl (cy 0, 40, .inl (fun _ => 0))), (q14_, .inr (2, [.ref (u15_.1 0), .ref (u15_.1 1), .int 0, .int 0])), (u15_.1 0, .inl (cy 0, 16, .inl (fun _ => 0))), (u15_.1 1, .inl (cy 0, 16, .inl (fun _ => 0)))]) := hD
  refine va_putF (D := (dC, dI)) (ci := 8) (v := .ref q14_) (ty := .object "RestBoard$Log") (C := RX8) (T := TX8) (N := 17) hx hb hts i_X8_init_X8 tyX8 tyX8_ok nmX8 hown hK hP hD hS 0 rfl rfl 15 (by decide) (hts _ m_X8_init_26) (fun _ h9 => h9) rfl hin rfl (by decide +kernel) rfl rfl (Nat.le_of_ble_eq_true rfl) dX8_init_122 (fun H locs hP hD hS => ?_)
  have hP : va_P (dC, dI) vwCl [(h, .inr (8, [.int 1, .int 0, .int 0, .ref q1_, .ref q2_, .ref q3_, .ref q4_, .ref q5_, .ref q6_, .ref q7_, .ref q8_, .ref q9_, .ref q10_, .ref q11_, .ref q12_, .ref q14_, .null])), (q1_, .inl (cy 0, 32, .inl (fun _ => 0))), (q2_, .inl (cy 0, 192, .inl (fun _ => 0))), (q3_, .inl (cy 0, 32, .inl (fun _ => 0))), (q4_, .inl (cy 0, 32, .inl (fun _ => 0))), (q5_, .inl (cy 0, 32, .inl (fun _ => 0))), (q6_, .inl (cy 0, 32, .inl (fun _ => 0))), (q7_, .inl (cy 0, 32, .inl (fun _ => 0))), (q8_, .inl (cy 0, 192, .inl (fun _ => 0))), (q9_, .inl (cy 0, 128, .inl (fun _ => 0))), (q10_, .inl (cy 0, 32, .inl (fun _ => 0))), (q11_, .inl (cy 0, 192, .inl (fun _ => 0))), (q12_, .inr (6, [.ref (u13_.1 0), .int 0, .int 0, .int 0])), (u13_.1 0, .inl (cy 0, 40, .inl (fun _ => 0))), (q14_, .inr (2, [.ref (u15_.1 0), .ref (u15_.1 1), .int 0, .int 0])), (u15_.1 0, .inl (cy 0, 16, .inl (fun _ => 0))), (u15_.1 1, .inl (cy 0, 16, .inl (fun _ => 0)))] H := hP
  have hD : va_D A [(h, .inr (8, [.int 1, .int 0, .int 0, .ref q1_, .ref q2_, .ref q3_, .ref q4_, .ref q5_, .ref q6_, .ref q7_, .ref q8_, .ref q9_, .ref q10_, .ref q11_, .ref q12_, .ref q14_, .null])), (q1_, .inl (cy 0, 32, .inl (fun _ => 0))), (q2_, .inl (cy 0, 192, .inl (fun _ => 0))), (q3_, .inl (cy 0, 32, .inl (fun _ => 0))), (q4_, .inl (cy 0, 32, .inl (fun _ => 0))), (q5_, .inl (cy 0, 32, .inl (fun _ => 0))), (q6_, .inl (cy 0, 32, .inl (fun _ => 0))), (q7_, .inl (cy 0, 32, .inl (fun _ => 0))), (q8_, .inl (cy 0, 192, .inl (fun _ => 0))), (q9_, .inl (cy 0, 128, .inl (fun _ => 0))), (q10_, .inl (cy 0, 32, .inl (fun _ => 0))), (q11_, .inl (cy 0, 192, .inl (fun _ => 0))), (q12_, .inr (6, [.ref (u13_.1 0), .int 0, .int 0, .int 0])), (u13_.1 0, .inl (cy 0, 40, .inl (fun _ => 0))), (q14_, .inr (2, [.ref (u15_.1 0), .ref (u15_.1 1), .int 0, .int 0])), (u15_.1 0, .inl (cy 0, 16, .inl (fun _ => 0))), (u15_.1 1, .inl (cy 0, 16, .inl (fun _ => 0)))] := hD
  refine lv_aload_n hx hb dX8_init_125 rfl (lv_at hl 0 rfl) ?_
  refine va_new (ci := 2) (fs := [.null, .null, .int 0, .int 0]) (C := RX2) (T := TX2) (N := 4) hx hb hts i_X8_init_X2 tyX2 tyX2_ok hown (hts _ m_X8_init_21) (hts _ m_X8_init_22) (hts _ m_X8_init_23) hK hP hD hS hA rfl tfX2 (Nat.le_of_ble_eq_true rfl) (Nat.le_of_ble_eq_true rfl) dX8_init_126 (fun q16_ H hP hD hS => ?_)
  have hP : va_P (dC, dI) vwCl [(h, .inr (8, [.int 1, .int 0, .int 0, .ref q1_, .ref q2_, .ref q3_, .ref q4_, .ref q5_, .ref q6_, .ref q7_, .ref q8_, .ref q9_, .ref q10_, .ref q11_, .ref q12_, .ref q14_, .null])), (q1_, .inl (cy 0, 32, .inl (fun _ => 0))), (q2_, .inl (cy 0, 192, .inl (fun _ => 0))), (q3_, .inl (cy 0, 32, .inl (fun _ => 0))), (q4_, .inl (cy 0, 32, .inl (fun _ => 0))), (q5_, .inl (cy 0, 32, .inl (fun _ => 0))), (q6_, .inl (cy 0, 32, .inl (fun _ => 0))), (q7_, .inl (cy 0, 32, .inl (fun _ => 0))), (q8_, .inl (cy 0, 192, .inl (fun _ => 0))), (q9_, .inl (cy 0, 128, .inl (fun _ => 0))), (q10_, .inl (cy 0, 32, .inl (fun _ => 0))), (q11_, .inl (cy 0, 192, .inl (fun _ => 0))), (q12_, .inr (6, [.ref (u13_.1 0), .int 0, .int 0, .int 0])), (u13_.1 0, .inl (cy 0, 40, .inl (fun _ => 0))), (q14_, .inr (2, [.ref (u15_.1 0), .ref (u15_.1 1), .int 0, .int 0])), (u15_.1 0, .inl (cy 0, 16, .inl (fun _ => 0))), (u15_.1 1, .inl (cy 0, 16, .inl (fun _ => 0))), (q16_, .inr (2, [.null, .null, .int 0, .int 0]))] H := hP
  have hD : va_D A [(h, .inr (8, [.int 1, .int 0, .int 0, .ref q1_, .ref q2_, .ref q3_, .ref q4_, .ref q5_, .ref q6_, .ref q7_, .ref q8_, .ref q9_, .ref q10_, .ref q11_, .ref q12_, .ref q14_, .null])), (q1_, .inl (cy 0, 32, .inl (fun _ => 0))), (q2_, .inl (cy 0, 192, .inl (fun _ => 0))), (q3_, .inl (cy 0, 32, .inl (fun _ => 0))), (q4_, .inl (cy 0, 32, .inl (fun _ => 0))), (q5_, .inl (cy 0, 32, .inl (fun _ => 0))), (q6_, .inl (cy 0, 32, .inl (fun _ => 0))), (q7_, .inl (cy 0, 32, .inl (fun _ => 0))), (q8_, .inl (cy 0, 192, .inl (fun _ => 0))), (q9_, .inl (cy 0, 128, .inl (fun _ => 0))), (q10_, .inl (cy 0, 32, .inl (fun _ => 0))), (q11_, .inl (cy 0, 192, .inl (fun _ => 0))), (q12_, .inr (6, [.ref (u13_.1 0), .int 0, .int 0, .int 0])), (u13_.1 0, .inl (cy 0, 40, .inl (fun _ => 0))), (q14_, .inr (2, [.ref (u15_.1 0), .ref (u15_.1 1), .int 0, .int 0])), (u15_.1 0, .inl (cy 0, 16, .inl (fun _ => 0))), (u15_.1 1, .inl (cy 0, 16, .inl (fun _ => 0))), (q16_, .inr (2, [.null, .null, .int 0, .int 0]))] := hD
  refine lv_dup hx hb dX8_init_129 rfl ?_
  refine lv_bipush (v := 32) hx hb dX8_init_130 (by decide) ?_
  have hPc : va_P (dC, dI) vwCl ([(q16_, .inr (2, [.null, .null, .int 0, .int 0]))]) _ := hP.sub [17] rfl
  have hDc := hD.sub (ws' := [(q16_, .inr (2, [.null, .null, .int 0, .int 0]))]) [17] (by decide) rfl
  have hFc := va_free (wc := [(q16_, .inr (2, [.null, .null, .int 0, .int 0]))]) hD hS hA [17] rfl
  refine va_callv (va_runI (As := [.int 32]) (rest := [.ref q16_, .ref h]) ⟨hx, hb, hml, hown, hts⟩ (c_X2_init_32 l dC dI cy q16_ _) (cwI 1 hts g_X8_init_X2_init_58 rfl rfl rfl (hts _ m_X8_init_23) (hts _ m_X8_init_24) (hts _ m_X8_init_25) rfl (by decide +kernel) ⟨Nat.le_of_ble_eq_true rfl, Nat.le_of_ble_eq_true rfl⟩) (pS_ps hC hPc hDc) rfl rfl hl.1 rfl (lv_room (Nat.le_of_ble_eq_true rfl)) dX8_init_132 ⟨Nat.le_of_ble_eq_true rfl, Nat.le_of_ble_eq_true rfl⟩) hS (fun q _ h => hFc q h) hFc (fun u t_ H1 locs ht hvm hw hB hz1 hk1 hS => ?_)
  obtain ⟨u17_, rfl⟩ : ∃ z, z = u := ⟨_, rfl⟩
  obtain ⟨hP1, hD1⟩ := hB
  rw [ht] at hP1
  obtain ⟨hP, hD⟩ := va_join (wr := [(h, .inr (8, [.int 1, .int 0, .int 0, .ref q1_, .ref q2_, .ref q3_, .ref q4_, .ref q5_, .ref q6_, .ref q7_, .ref q8_, .ref q9_, .ref q10_, .ref q11_, .ref q12_, .ref q14_, .null])), (q1_, .inl (cy 0, 32, .inl (fun _ => 0))), (q2_, .inl (cy 0, 192, .inl (fun _ => 0))), (q3_, .inl (cy 0, 32, .inl (fun _ => 0))), (q4_, .inl (cy 0, 32, .inl (fun _ => 0))), (q5_, .inl (cy 0, 32, .inl (fun _ => 0))), (q6_, .inl (cy 0, 32, .inl (fun _ => 0))), (q7_, .inl (cy 0, 32, .inl (fun _ => 0))), (q8_, .inl (cy 0, 192, .inl (fun _ => 0))), (q9_, .inl (cy 0, 128, .inl (fun _ => 0))), (q10_, .inl (cy 0, 32, .inl (fun _ => 0))), (q11_, .inl (cy 0, 192, .inl (fun _ => 0))), (q12_, .inr (6, [.ref (u13_.1 0), .int 0, .int 0, .int 0])), (u13_.1 0, .inl (cy 0, 40, .inl (fun _ => 0))), (q14_, .inr (2, [.ref (u15_.1 0), .ref (u15_.1 1), .int 0, .int 0])), (u15_.1 0, .inl (cy 0, 16, .inl (fun _ => 0))), (u15_.1 1, .inl (cy 0, 16, .inl (fun _ => 0)))]) (w1 := [(q16_, .inr (2, [.ref (u17_.1 0), .ref (u17_.1 1), .int 0, .int 0])), (u17_.1 0, .inl (cy 0, 32, .inl (fun _ => 0))), (u17_.1 1, .inl (cy 0, 32, .inl (fun _ => 0)))]) hP hD [17] [0, 1, 2, 3, 4, 5, 6, 7, 8, 9, 10, 11, 12, 13, 14, 15, 16] rfl rfl (by decide) (by decide) hk1 hFc hP1 hD1
  generalize H1 = H at hP hS ⊢
  have hP : va_P (dC, dI) vwCl ([(h, .inr (8, [.int 1, .int 0, .int 0, .ref q1_, .ref q2_, .ref q3_, .ref q4_, .ref q5_, .ref q6_, .ref q7_, .ref q8_, .ref q9_, .ref q10_, .ref q11_, .ref q12_, .ref q14_, .null])), (q1_, .inl (cy 0, 32, .inl (fun _ => 0))), (q2_, .inl (cy 0, 192, .inl (fun _ => 0))), (q3_, .inl (cy 0, 32, .inl (fun _ => 0))), (q4_, .inl (cy 0, 32, .inl (fun _ => 0))), (q5_, .inl (cy 0, 32, .inl (fun _ => 0))), (q6_, .inl (cy 0, 32, .inl (fun _ => 0))), (q7_, .inl (cy 0, 32, .inl (fun _ => 0))), (q8_, .inl (cy 0, 192, .inl (fun _ => 0))), (q9_, .inl (cy 0, 128, .inl (fun _ => 0))), (q10_, .inl (cy 0, 32, .inl (fun _ => 0))), (q11_, .inl (cy 0, 192, .inl (fun _ => 0))), (q12_, .inr (6, [.ref (u13_.1 0), .int 0, .int 0, .int 0])), (u13_.1 0, .inl (cy 0, 40, .inl (fun _ => 0))), (q14_, .inr (2, [.ref (u15_.1 0), .ref (u15_.1 1), .int 0, .int 0])), (u15_.1 0, .inl (cy 0, 16, .inl (fun _ => 0))), (u15_.1 1, .inl (cy 0, 16, .inl (fun _ => 0))), (q16_, .inr (2, [.ref (u17_.1 0), .ref (u17_.1 1), .int 0, .int 0])), (u17_.1 0, .inl (cy 0, 32, .inl (fun _ => 0))), (u17_.1 1, .inl (cy 0, 32, .inl (fun _ => 0)))]) H := hP
  have hD : va_D A ([(h, .inr (8, [.int 1, .int 0, .int 0, .ref q1_, .ref q2_, .ref q3_, .ref q4_, .ref q5_, .ref q6_, .ref q7_, .ref q8_, .ref q9_, .ref q10_, .ref q11_, .ref q12_, .ref q14_, .null])), (q1_, .inl (cy 0, 32, .inl (fun _ => 0))), (q2_, .inl (cy 0, 192, .inl (fun _ => 0))), (q3_, .inl (cy 0, 32, .inl (fun _ => 0))), (q4_, .inl (cy 0, 32, .inl (fun _ => 0))), (q5_, .inl (cy 0, 32, .inl (fun _ => 0))), (q6_, .inl (cy 0, 32, .inl (fun _ => 0))), (q7_, .inl (cy 0, 32, .inl (fun _ => 0))), (q8_, .inl (cy 0, 192, .inl (fun _ => 0))), (q9_, .inl (cy 0, 128, .inl (fun _ => 0))), (q10_, .inl (cy 0, 32, .inl (fun _ => 0))), (q11_, .inl (cy 0, 192, .inl (fun _ => 0))), (q12_, .inr (6, [.ref (u13_.1 0), .int 0, .int 0, .int 0])), (u13_.1 0, .inl (cy 0, 40, .inl (fun _ => 0))), (q14_, .inr (2, [.ref (u15_.1 0), .ref (u15_.1 1), .int 0, .int 0])), (u15_.1 0, .inl (cy 0, 16, .inl (fun _ => 0))), (u15_.1 1, .inl (cy 0, 16, .inl (fun _ => 0))), (q16_, .inr (2, [.ref (u17_.1 0), .ref (u17_.1 1), .int 0, .int 0])), (u17_.1 0, .inl (cy 0, 32, .inl (fun _ => 0))), (u17_.1 1, .inl (cy 0, 32, .inl (fun _ => 0)))]) := hD
  refine va_putF (D := (dC, dI)) (ci := 8) (v := .ref q16_) (ty := .object "RestBoard$Log") (C := RX8) (T := TX8) (N := 17) hx hb hts i_X8_init_X8 tyX8 tyX8_ok nmX8 hown hK hP hD hS 0 rfl rfl 16 (by decide) (hts _ m_X8_init_27) (fun _ h9 => h9) rfl hin rfl (by decide +kernel) rfl rfl (Nat.le_of_ble_eq_true rfl) dX8_init_135 (fun H locs hP hD hS => ?_)
  have hP : va_P (dC, dI) vwCl [(h, .inr (8, [.int 1, .int 0, .int 0, .ref q1_, .ref q2_, .ref q3_, .ref q4_, .ref q5_, .ref q6_, .ref q7_, .ref q8_, .ref q9_, .ref q10_, .ref q11_, .ref q12_, .ref q14_, .ref q16_])), (q1_, .inl (cy 0, 32, .inl (fun _ => 0))), (q2_, .inl (cy 0, 192, .inl (fun _ => 0))), (q3_, .inl (cy 0, 32, .inl (fun _ => 0))), (q4_, .inl (cy 0, 32, .inl (fun _ => 0))), (q5_, .inl (cy 0, 32, .inl (fun _ => 0))), (q6_, .inl (cy 0, 32, .inl (fun _ => 0))), (q7_, .inl (cy 0, 32, .inl (fun _ => 0))), (q8_, .inl (cy 0, 192, .inl (fun _ => 0))), (q9_, .inl (cy 0, 128, .inl (fun _ => 0))), (q10_, .inl (cy 0, 32, .inl (fun _ => 0))), (q11_, .inl (cy 0, 192, .inl (fun _ => 0))), (q12_, .inr (6, [.ref (u13_.1 0), .int 0, .int 0, .int 0])), (u13_.1 0, .inl (cy 0, 40, .inl (fun _ => 0))), (q14_, .inr (2, [.ref (u15_.1 0), .ref (u15_.1 1), .int 0, .int 0])), (u15_.1 0, .inl (cy 0, 16, .inl (fun _ => 0))), (u15_.1 1, .inl (cy 0, 16, .inl (fun _ => 0))), (q16_, .inr (2, [.ref (u17_.1 0), .ref (u17_.1 1), .int 0, .int 0])), (u17_.1 0, .inl (cy 0, 32, .inl (fun _ => 0))), (u17_.1 1, .inl (cy 0, 32, .inl (fun _ => 0)))] H := hP
  have hD : va_D A [(h, .inr (8, [.int 1, .int 0, .int 0, .ref q1_, .ref q2_, .ref q3_, .ref q4_, .ref q5_, .ref q6_, .ref q7_, .ref q8_, .ref q9_, .ref q10_, .ref q11_, .ref q12_, .ref q14_, .ref q16_])), (q1_, .inl (cy 0, 32, .inl (fun _ => 0))), (q2_, .inl (cy 0, 192, .inl (fun _ => 0))), (q3_, .inl (cy 0, 32, .inl (fun _ => 0))), (q4_, .inl (cy 0, 32, .inl (fun _ => 0))), (q5_, .inl (cy 0, 32, .inl (fun _ => 0))), (q6_, .inl (cy 0, 32, .inl (fun _ => 0))), (q7_, .inl (cy 0, 32, .inl (fun _ => 0))), (q8_, .inl (cy 0, 192, .inl (fun _ => 0))), (q9_, .inl (cy 0, 128, .inl (fun _ => 0))), (q10_, .inl (cy 0, 32, .inl (fun _ => 0))), (q11_, .inl (cy 0, 192, .inl (fun _ => 0))), (q12_, .inr (6, [.ref (u13_.1 0), .int 0, .int 0, .int 0])), (u13_.1 0, .inl (cy 0, 40, .inl (fun _ => 0))), (q14_, .inr (2, [.ref (u15_.1 0), .ref (u15_.1 1), .int 0, .int 0])), (u15_.1 0, .inl (cy 0, 16, .inl (fun _ => 0))), (u15_.1 1, .inl (cy 0, 16, .inl (fun _ => 0))), (q16_, .inr (2, [.ref (u17_.1 0), .ref (u17_.1 1), .int 0, .int 0])), (u17_.1 0, .inl (cy 0, 32, .inl (fun _ => 0))), (u17_.1 1, .inl (cy 0, 32, .inl (fun _ => 0)))] := hD
  refine lv_aload_n hx hb dX8_init_138 rfl (lv_at hl 0 rfl) ?_
  refine va_get (D := (dC, dI)) (ci := 8) (v := .ref q6_) (C := RX8) (T := TX8) (N := 17) hx hb hts i_X8_init_X8 hown hK hP 0 rfl rfl 8 (by decide) (hts _ m_X8_init_10) (fun _ h9 => h9) rfl dX8_init_139 ?_
  refine lv_iconst (v := (-1)) hx hb dX8_init_142 (by decide) ?_
  have hPc : va_P (dC, dI) vwCl ([(q6_, .inl (cy 0, 32, .inl (fun _ => 0)))]) _ := hP.sub [6] rfl
  have hDc := hD.sub (ws' := [(q6_, .inl (cy 0, 32, .inl (fun _ => 0)))]) [6] (by decide) rfl
  have hFc := va_free (wc := [(q6_, .inl (cy 0, 32, .inl (fun _ => 0)))]) hD hS hA [6] rfl
  refine va_callv (va_runS (As := [.ref q6_, .int (-1)]) (rest := []) ⟨hx, hb, hml, hown, hts⟩ (c_J7_fill_53178 l dC dI cy q6_ 32 ((fun _ => 0)) _ (-1) (by decide)) (va_cwS 2 hts g_X8_init_J7_fill_53178_68 rfl rfl rfl (by decide +kernel) ⟨Nat.le_of_ble_eq_true rfl, Nat.le_of_ble_eq_true rfl⟩) (pS_ps hC hPc hDc) rfl rfl hl.1 rfl (lv_room (Nat.le_of_ble_eq_true rfl)) dX8_init_143 ⟨Nat.le_of_ble_eq_true rfl, Nat.le_of_ble_eq_true rfl⟩) hS (fun q _ h => hFc q h) hFc (fun u t_ H1 locs ht hvm hw hB hz1 hk1 hS => ?_)
  obtain ⟨u18_, rfl⟩ : ∃ z, z = u := ⟨_, rfl⟩
  obtain ⟨hP1, hD1⟩ := hB
  rw [ht] at hP1
  obtain ⟨hP, hD⟩ := va_join (wr := [(h, .inr (8, [.int 1, .int 0, .int 0, .ref q1_, .ref q2_, .ref q3_, .ref q4_, .ref q5_, .ref q6_, .ref q7_, .ref q8_, .ref q9_, .ref q10_, .ref q11_, .ref q12_, .ref q14_, .ref q16_])), (q1_, .inl (cy 0, 32, .inl (fun _ => 0))), (q2_, .inl (cy 0, 192, .inl (fun _ => 0))), (q3_, .inl (cy 0, 32, .inl (fun _ => 0))), (q4_, .inl (cy 0, 32, .inl (fun _ => 0))), (q5_, .inl (cy 0, 32, .inl (fun _ => 0))), (q7_, .inl (cy 0, 32, .inl (fun _ => 0))), (q8_, .inl (cy 0, 192, .inl (fun _ => 0))), (q9_, .inl (cy 0, 128, .inl (fun _ => 0))), (q10_, .inl (cy 0, 32, .inl (fun _ => 0))), (q11_, .inl (cy 0, 192, .inl (fun _ => 0))), (q12_, .inr (6, [.ref (u13_.1 0), .int 0, .int 0, .int 0])), (u13_.1 0, .inl (cy 0, 40, .inl (fun _ => 0))), (q14_, .inr (2, [.ref (u15_.1 0), .ref (u15_.1 1), .int 0, .int 0])), (u15_.1 0, .inl (cy 0, 16, .inl (fun _ => 0))), (u15_.1 1, .inl (cy 0, 16, .inl (fun _ => 0))), (q16_, .inr (2, [.ref (u17_.1 0), .ref (u17_.1 1), .int 0, .int 0])), (u17_.1 0, .inl (cy 0, 32, .inl (fun _ => 0))), (u17_.1 1, .inl (cy 0, 32, .inl (fun _ => 0)))]) (w1 := [(q6_, .inl (cy 0, 32, .inl (fun _ => (-1))))]) hP hD [6] [0, 1, 2, 3, 4, 5, 7, 8, 9, 10, 11, 12, 13, 14, 15, 16, 17, 18, 19] rfl rfl (by decide) (by decide) hk1 hFc hP1 hD1
  generalize H1 = H at hP hS ⊢
  have hP : va_P (dC, dI) vwCl ([(h, .inr (8, [.int 1, .int 0, .int 0, .ref q1_, .ref q2_, .ref q3_, .ref q4_, .ref q5_, .ref q6_, .ref q7_, .ref q8_, .ref q9_, .ref q10_, .ref q11_, .ref q12_, .ref q14_, .ref q16_])), (q1_, .inl (cy 0, 32, .inl (fun _ => 0))), (q2_, .inl (cy 0, 192, .inl (fun _ => 0))), (q3_, .inl (cy 0, 32, .inl (fun _ => 0))), (q4_, .inl (cy 0, 32, .inl (fun _ => 0))), (q5_, .inl (cy 0, 32, .inl (fun _ => 0))), (q7_, .inl (cy 0, 32, .inl (fun _ => 0))), (q8_, .inl (cy 0, 192, .inl (fun _ => 0))), (q9_, .inl (cy 0, 128, .inl (fun _ => 0))), (q10_, .inl (cy 0, 32, .inl (fun _ => 0))), (q11_, .inl (cy 0, 192, .inl (fun _ => 0))), (q12_, .inr (6, [.ref (u13_.1 0), .int 0, .int 0, .int 0])), (u13_.1 0, .inl (cy 0, 40, .inl (fun _ => 0))), (q14_, .inr (2, [.ref (u15_.1 0), .ref (u15_.1 1), .int 0, .int 0])), (u15_.1 0, .inl (cy 0, 16, .inl (fun _ => 0))), (u15_.1 1, .inl (cy 0, 16, .inl (fun _ => 0))), (q16_, .inr (2, [.ref (u17_.1 0), .ref (u17_.1 1), .int 0, .int 0])), (u17_.1 0, .inl (cy 0, 32, .inl (fun _ => 0))), (u17_.1 1, .inl (cy 0, 32, .inl (fun _ => 0))), (q6_, .inl (cy 0, 32, .inl (fun _ => (-1))))]) H := hP
  have hD : va_D A ([(h, .inr (8, [.int 1, .int 0, .int 0, .ref q1_, .ref q2_, .ref q3_, .ref q4_, .ref q5_, .ref q6_, .ref q7_, .ref q8_, .ref q9_, .ref q10_, .ref q11_, .ref q12_, .ref q14_, .ref q16_])), (q1_, .inl (cy 0, 32, .inl (fun _ => 0))), (q2_, .inl (cy 0, 192, .inl (fun _ => 0))), (q3_, .inl (cy 0, 32, .inl (fun _ => 0))), (q4_, .inl (cy 0, 32, .inl (fun _ => 0))), (q5_, .inl (cy 0, 32, .inl (fun _ => 0))), (q7_, .inl (cy 0, 32, .inl (fun _ => 0))), (q8_, .inl (cy 0, 192, .inl (fun _ => 0))), (q9_, .inl (cy 0, 128, .inl (fun _ => 0))), (q10_, .inl (cy 0, 32, .inl (fun _ => 0))), (q11_, .inl (cy 0, 192, .inl (fun _ => 0))), (q12_, .inr (6, [.ref (u13_.1 0), .int 0, .int 0, .int 0])), (u13_.1 0, .inl (cy 0, 40, .inl (fun _ => 0))), (q14_, .inr (2, [.ref (u15_.1 0), .ref (u15_.1 1), .int 0, .int 0])), (u15_.1 0, .inl (cy 0, 16, .inl (fun _ => 0))), (u15_.1 1, .inl (cy 0, 16, .inl (fun _ => 0))), (q16_, .inr (2, [.ref (u17_.1 0), .ref (u17_.1 1), .int 0, .int 0])), (u17_.1 0, .inl (cy 0, 32, .inl (fun _ => 0))), (u17_.1 1, .inl (cy 0, 32, .inl (fun _ => 0))), (q6_, .inl (cy 0, 32, .inl (fun _ => (-1))))]) := hD
  refine lv_aload_n hx hb dX8_init_146 rfl (lv_at hl 0 rfl) ?_
  refine va_get (D := (dC, dI)) (ci := 8) (v := .ref q8_) (C := RX8) (T := TX8) (N := 17) hx hb hts i_X8_init_X8 hown hK hP 0 rfl rfl 10 (by decide) (hts _ m_X8_init_12) (fun _ h9 => h9) rfl dX8_init_147 ?_
  refine lv_iconst (v := (-1)) hx hb dX8_init_150 (by decide) ?_
  have hPc : va_P (dC, dI) vwCl ([(q8_, .inl (cy 0, 192, .inl (fun _ => 0)))]) _ := hP.sub [7] rfl
  have hDc := hD.sub (ws' := [(q8_, .inl (cy 0, 192, .inl (fun _ => 0)))]) [7] (by decide) rfl
  have hFc := va_free (wc := [(q8_, .inl (cy 0, 192, .inl (fun _ => 0)))]) hD hS hA [7] rfl
  refine va_callv (va_runS (As := [.ref q8_, .int (-1)]) (rest := []) ⟨hx, hb, hml, hown, hts⟩ (c_J7_fill_53178 l dC dI cy q8_ 192 ((fun _ => 0)) _ (-1) (by decide)) (va_cwS 2 hts g_X8_init_J7_fill_53178_68 rfl rfl rfl (by decide +kernel) ⟨Nat.le_of_ble_eq_true rfl, Nat.le_of_ble_eq_true rfl⟩) (pS_ps hC hPc hDc) rfl rfl hl.1 rfl (lv_room (Nat.le_of_ble_eq_true rfl)) dX8_init_151 ⟨Nat.le_of_ble_eq_true rfl, Nat.le_of_ble_eq_true rfl⟩) hS (fun q _ h => hFc q h) hFc (fun u t_ H1 locs ht hvm hw hB hz1 hk1 hS => ?_)
  obtain ⟨u19_, rfl⟩ : ∃ z, z = u := ⟨_, rfl⟩
  obtain ⟨hP1, hD1⟩ := hB
  rw [ht] at hP1
  obtain ⟨hP, hD⟩ := va_join (wr := [(h, .inr (8, [.int 1, .int 0, .int 0, .ref q1_, .ref q2_, .ref q3_, .ref q4_, .ref q5_, .ref q6_, .ref q7_, .ref q8_, .ref q9_, .ref q10_, .ref q11_, .ref q12_, .ref q14_, .ref q16_])), (q1_, .inl (cy 0, 32, .inl (fun _ => 0))), (q2_, .inl (cy 0, 192, .inl (fun _ => 0))), (q3_, .inl (cy 0, 32, .inl (fun _ => 0))), (q4_, .inl (cy 0, 32, .inl (fun _ => 0))), (q5_, .inl (cy 0, 32, .inl (fun _ => 0))), (q7_, .inl (cy 0, 32, .inl (fun _ => 0))), (q9_, .inl (cy 0, 128, .inl (fun _ => 0))), (q10_, .inl (cy 0, 32, .inl (fun _ => 0))), (q11_, .inl (cy 0, 192, .inl (fun _ => 0))), (q12_, .inr (6, [.ref (u13_.1 0), .int 0, .int 0, .int 0])), (u13_.1 0, .inl (cy 0, 40, .inl (fun _ => 0))), (q14_, .inr (2, [.ref (u15_.1 0), .ref (u15_.1 1), .int 0, .int 0])), (u15_.1 0, .inl (cy 0, 16, .inl (fun _ => 0))), (u15_.1 1, .inl (cy 0, 16, .inl (fun _ => 0))), (q16_, .inr (2, [.ref (u17_.1 0), .ref (u17_.1 1), .int 0, .int 0])), (u17_.1 0, .inl (cy 0, 32, .inl (fun _ => 0))), (u17_.1 1, .inl (cy 0, 32, .inl (fun _ => 0))), (q6_, .inl (cy 0, 32, .inl (fun _ => (-1))))]) (w1 := [(q8_, .inl (cy 0, 192, .inl (fun _ => (-1))))]) hP hD [7] [0, 1, 2, 3, 4, 5, 6, 8, 9, 10, 11, 12, 13, 14, 15, 16, 17, 18, 19] rfl rfl (by decide) (by decide) hk1 hFc hP1 hD1
  generalize H1 = H at hP hS ⊢
  have hP : va_P (dC, dI) vwCl ([(h, .inr (8, [.int 1, .int 0, .int 0, .ref q1_, .ref q2_, .ref q3_, .ref q4_, .ref q5_, .ref q6_, .ref q7_, .ref q8_, .ref q9_, .ref q10_, .ref q11_, .ref q12_, .ref q14_, .ref q16_])), (q1_, .inl (cy 0, 32, .inl (fun _ => 0))), (q2_, .inl (cy 0, 192, .inl (fun _ => 0))), (q3_, .inl (cy 0, 32, .inl (fun _ => 0))), (q4_, .inl (cy 0, 32, .inl (fun _ => 0))), (q5_, .inl (cy 0, 32, .inl (fun _ => 0))), (q7_, .inl (cy 0, 32, .inl (fun _ => 0))), (q9_, .inl (cy 0, 128, .inl (fun _ => 0))), (q10_, .inl (cy 0, 32, .inl (fun _ => 0))), (q11_, .inl (cy 0, 192, .inl (fun _ => 0))), (q12_, .inr (6, [.ref (u13_.1 0), .int 0, .int 0, .int 0])), (u13_.1 0, .inl (cy 0, 40, .inl (fun _ => 0))), (q14_, .inr (2, [.ref (u15_.1 0), .ref (u15_.1 1), .int 0, .int 0])), (u15_.1 0, .inl (cy 0, 16, .inl (fun _ => 0))), (u15_.1 1, .inl (cy 0, 16, .inl (fun _ => 0))), (q16_, .inr (2, [.ref (u17_.1 0), .ref (u17_.1 1), .int 0, .int 0])), (u17_.1 0, .inl (cy 0, 32, .inl (fun _ => 0))), (u17_.1 1, .inl (cy 0, 32, .inl (fun _ => 0))), (q6_, .inl (cy 0, 32, .inl (fun _ => (-1)))), (q8_, .inl (cy 0, 192, .inl (fun _ => (-1))))]) H := hP
  have hD : va_D A ([(h, .inr (8, [.int 1, .int 0, .int 0, .ref q1_, .ref q2_, .ref q3_, .ref q4_, .ref q5_, .ref q6_, .ref q7_, .ref q8_, .ref q9_, .ref q10_, .ref q11_, .ref q12_, .ref q14_, .ref q16_])), (q1_, .inl (cy 0, 32, .inl (fun _ => 0))), (q2_, .inl (cy 0, 192, .inl (fun _ => 0))), (q3_, .inl (cy 0, 32, .inl (fun _ => 0))), (q4_, .inl (cy 0, 32, .inl (fun _ => 0))), (q5_, .inl (cy 0, 32, .inl (fun _ => 0))), (q7_, .inl (cy 0, 32, .inl (fun _ => 0))), (q9_, .inl (cy 0, 128, .inl (fun _ => 0))), (q10_, .inl (cy 0, 32, .inl (fun _ => 0))), (q11_, .inl (cy 0, 192, .inl (fun _ => 0))), (q12_, .inr (6, [.ref (u13_.1 0), .int 0, .int 0, .int 0])), (u13_.1 0, .inl (cy 0, 40, .inl (fun _ => 0))), (q14_, .inr (2, [.ref (u15_.1 0), .ref (u15_.1 1), .int 0, .int 0])), (u15_.1 0, .inl (cy 0, 16, .inl (fun _ => 0))), (u15_.1 1, .inl (cy 0, 16, .inl (fun _ => 0))), (q16_, .inr (2, [.ref (u17_.1 0), .ref (u17_.1 1), .int 0, .int 0])), (u17_.1 0, .inl (cy 0, 32, .inl (fun _ => 0))), (u17_.1 1, .inl (cy 0, 32, .inl (fun _ => 0))), (q6_, .inl (cy 0, 32, .inl (fun _ => (-1)))), (q8_, .inl (cy 0, 192, .inl (fun _ => (-1))))]) := hD
  refine lv_aload_n hx hb dX8_init_154 rfl (lv_at hl 0 rfl) ?_
  refine va_get (D := (dC, dI)) (ci := 8) (v := .ref q9_) (C := RX8) (T := TX8) (N := 17) hx hb hts i_X8_init_X8 hown hK hP 0 rfl rfl 11 (by decide) (hts _ m_X8_init_13) (fun _ h9 => h9) rfl dX8_init_155 ?_
  refine lv_iconst (v := (-1)) hx hb dX8_init_158 (by decide) ?_
  have hPc : va_P (dC, dI) vwCl ([(q9_, .inl (cy 0, 128, .inl (fun _ => 0)))]) _ := hP.sub [7] rfl
  have hDc := hD.sub (ws' := [(q9_, .inl (cy 0, 128, .inl (fun _ => 0)))]) [7] (by decide) rfl
  have hFc := va_free (wc := [(q9_, .inl (cy 0, 128, .inl (fun _ => 0)))]) hD hS hA [7] rfl
  refine va_callv (va_runS (As := [.ref q9_, .int (-1)]) (rest := []) ⟨hx, hb, hml, hown, hts⟩ (c_J7_fill_53178 l dC dI cy q9_ 128 ((fun _ => 0)) _ (-1) (by decide)) (va_cwS 2 hts g_X8_init_J7_fill_53178_68 rfl rfl rfl (by decide +kernel) ⟨Nat.le_of_ble_eq_true rfl, Nat.le_of_ble_eq_true rfl⟩) (pS_ps hC hPc hDc) rfl rfl hl.1 rfl (lv_room (Nat.le_of_ble_eq_true rfl)) dX8_init_159 ⟨Nat.le_of_ble_eq_true rfl, Nat.le_of_ble_eq_true rfl⟩) hS (fun q _ h => hFc q h) hFc (fun u t_ H1 locs ht hvm hw hB hz1 hk1 hS => ?_)
  obtain ⟨u20_, rfl⟩ : ∃ z, z = u := ⟨_, rfl⟩
  obtain ⟨hP1, hD1⟩ := hB
  rw [ht] at hP1
  obtain ⟨hP, hD⟩ := va_join (wr := [(h, .inr (8, [.int 1, .int 0, .int 0, .ref q1_, .ref q2_, .ref q3_, .ref q4_, .ref q5_, .ref q6_, .ref q7_, .ref q8_, .ref q9_, .ref q10_, .ref q11_, .ref q12_, .ref q14_, .ref q16_])), (q1_, .inl (cy 0, 32, .inl (fun _ => 0))), (q2_, .inl (cy 0, 192, .inl (fun _ => 0))), (q3_, .inl (cy 0, 32, .inl (fun _ => 0))), (q4_, .inl (cy 0, 32, .inl (fun _ => 0))), (q5_, .inl (cy 0, 32, .inl (fun _ => 0))), (q7_, .inl (cy 0, 32, .inl (fun _ => 0))), (q10_, .inl (cy 0, 32, .inl (fun _ => 0))), (q11_, .inl (cy 0, 192, .inl (fun _ => 0))), (q12_, .inr (6, [.ref (u13_.1 0), .int 0, .int 0, .int 0])), (u13_.1 0, .inl (cy 0, 40, .inl (fun _ => 0))), (q14_, .inr (2, [.ref (u15_.1 0), .ref (u15_.1 1), .int 0, .int 0])), (u15_.1 0, .inl (cy 0, 16, .inl (fun _ => 0))), (u15_.1 1, .inl (cy 0, 16, .inl (fun _ => 0))), (q16_, .inr (2, [.ref (u17_.1 0), .ref (u17_.1 1), .int 0, .int 0])), (u17_.1 0, .inl (cy 0, 32, .inl (fun _ => 0))), (u17_.1 1, .inl (cy 0, 32, .inl (fun _ => 0))), (q6_, .inl (cy 0, 32, .inl (fun _ => (-1)))), (q8_, .inl (cy 0, 192, .inl (fun _ => (-1))))]) (w1 := [(q9_, .inl (cy 0, 128, .inl (fun _ => (-1))))]) hP hD [7] [0, 1, 2, 3, 4, 5, 6, 8, 9, 10, 11, 12, 13, 14, 15, 16, 17, 18, 19] rfl rfl (by decide) (by decide) hk1 hFc hP1 hD1
  generalize H1 = H at hP hS ⊢
  have hP : va_P (dC, dI) vwCl ([(h, .inr (8, [.int 1, .int 0, .int 0, .ref q1_, .ref q2_, .ref q3_, .ref q4_, .ref q5_, .ref q6_, .ref q7_, .ref q8_, .ref q9_, .ref q10_, .ref q11_, .ref q12_, .ref q14_, .ref q16_])), (q1_, .inl (cy 0, 32, .inl (fun _ => 0))), (q2_, .inl (cy 0, 192, .inl (fun _ => 0))), (q3_, .inl (cy 0, 32, .inl (fun _ => 0))), (q4_, .inl (cy 0, 32, .inl (fun _ => 0))), (q5_, .inl (cy 0, 32, .inl (fun _ => 0))), (q7_, .inl (cy 0, 32, .inl (fun _ => 0))), (q10_, .inl (cy 0, 32, .inl (fun _ => 0))), (q11_, .inl (cy 0, 192, .inl (fun _ => 0))), (q12_, .inr (6, [.ref (u13_.1 0), .int 0, .int 0, .int 0])), (u13_.1 0, .inl (cy 0, 40, .inl (fun _ => 0))), (q14_, .inr (2, [.ref (u15_.1 0), .ref (u15_.1 1), .int 0, .int 0])), (u15_.1 0, .inl (cy 0, 16, .inl (fun _ => 0))), (u15_.1 1, .inl (cy 0, 16, .inl (fun _ => 0))), (q16_, .inr (2, [.ref (u17_.1 0), .ref (u17_.1 1), .int 0, .int 0])), (u17_.1 0, .inl (cy 0, 32, .inl (fun _ => 0))), (u17_.1 1, .inl (cy 0, 32, .inl (fun _ => 0))), (q6_, .inl (cy 0, 32, .inl (fun _ => (-1)))), (q8_, .inl (cy 0, 192, .inl (fun _ => (-1)))), (q9_, .inl (cy 0, 128, .inl (fun _ => (-1))))]) H := hP
  have hD : va_D A ([(h, .inr (8, [.int 1, .int 0, .int 0, .ref q1_, .ref q2_, .ref q3_, .ref q4_, .ref q5_, .ref q6_, .ref q7_, .ref q8_, .ref q9_, .ref q10_, .ref q11_, .ref q12_, .ref q14_, .ref q16_])), (q1_, .inl (cy 0, 32, .inl (fun _ => 0))), (q2_, .inl (cy 0, 192, .inl (fun _ => 0))), (q3_, .inl (cy 0, 32, .inl (fun _ => 0))), (q4_, .inl (cy 0, 32, .inl (fun _ => 0))), (q5_, .inl (cy 0, 32, .inl (fun _ => 0))), (q7_, .inl (cy 0, 32, .inl (fun _ => 0))), (q10_, .inl (cy 0, 32, .inl (fun _ => 0))), (q11_, .inl (cy 0, 192, .inl (fun _ => 0))), (q12_, .inr (6, [.ref (u13_.1 0), .int 0, .int 0, .int 0])), (u13_.1 0, .inl (cy 0, 40, .inl (fun _ => 0))), (q14_, .inr (2, [.ref (u15_.1 0), .ref (u15_.1 1), .int 0, .int 0])), (u15_.1 0, .inl (cy 0, 16, .inl (fun _ => 0))), (u15_.1 1, .inl (cy 0, 16, .inl (fun _ => 0))), (q16_, .inr (2, [.ref (u17_.1 0), .ref (u17_.1 1), .int 0, .int 0])), (u17_.1 0, .inl (cy 0, 32, .inl (fun _ => 0))), (u17_.1 1, .inl (cy 0, 32, .inl (fun _ => 0))), (q6_, .inl (cy 0, 32, .inl (fun _ => (-1)))), (q8_, .inl (cy 0, 192, .inl (fun _ => (-1)))), (q9_, .inl (cy 0, 128, .inl (fun _ => (-1))))]) := hD
  have hP9 := hP.sub (ws' := [(h, .inr (8, [.int 1, .int 0, .int 0, .ref q1_, .ref q2_, .ref q3_, .ref q4_, .ref q5_, .ref q6_, .ref q7_, .ref q8_, .ref q9_, .ref q10_, .ref q11_, .ref q12_, .ref q14_, .ref q16_])), (q1_, .inl (cy 0, 32, .inl (fun _ => 0))), (q2_, .inl (cy 0, 192, .inl (fun _ => 0))), (q3_, .inl (cy 0, 32, .inl (fun _ => 0))), (q4_, .inl (cy 0, 32, .inl (fun _ => 0))), (q5_, .inl (cy 0, 32, .inl (fun _ => 0))), (q6_, .inl (cy 0, 32, .inl (fun _ => (-1)))), (q7_, .inl (cy 0, 32, .inl (fun _ => 0))), (q8_, .inl (cy 0, 192, .inl (fun _ => (-1)))), (q9_, .inl (cy 0, 128, .inl (fun _ => (-1)))), (q10_, .inl (cy 0, 32, .inl (fun _ => 0))), (q11_, .inl (cy 0, 192, .inl (fun _ => 0))), (q12_, .inr (6, [.ref (u13_.1 0), .int 0, .int 0, .int 0])), (u13_.1 0, .inl (cy 0, 40, .inl (fun _ => 0))), (q14_, .inr (2, [.ref (u15_.1 0), .ref (u15_.1 1), .int 0, .int 0])), (u15_.1 0, .inl (cy 0, 16, .inl (fun _ => 0))), (u15_.1 1, .inl (cy 0, 16, .inl (fun _ => 0))), (q16_, .inr (2, [.ref (u17_.1 0), .ref (u17_.1 1), .int 0, .int 0])), (u17_.1 0, .inl (cy 0, 32, .inl (fun _ => 0))), (u17_.1 1, .inl (cy 0, 32, .inl (fun _ => 0)))]) [0, 1, 2, 3, 4, 5, 17, 6, 18, 19, 7, 8, 9, 10, 11, 12, 13, 14, 15, 16] rfl
  have hD9 := hD.sub (ws' := [(h, .inr (8, [.int 1, .int 0, .int 0, .ref q1_, .ref q2_, .ref q3_, .ref q4_, .ref q5_, .ref q6_, .ref q7_, .ref q8_, .ref q9_, .ref q10_, .ref q11_, .ref q12_, .ref q14_, .ref q16_])), (q1_, .inl (cy 0, 32, .inl (fun _ => 0))), (q2_, .inl (cy 0, 192, .inl (fun _ => 0))), (q3_, .inl (cy 0, 32, .inl (fun _ => 0))), (q4_, .inl (cy 0, 32, .inl (fun _ => 0))), (q5_, .inl (cy 0, 32, .inl (fun _ => 0))), (q6_, .inl (cy 0, 32, .inl (fun _ => (-1)))), (q7_, .inl (cy 0, 32, .inl (fun _ => 0))), (q8_, .inl (cy 0, 192, .inl (fun _ => (-1)))), (q9_, .inl (cy 0, 128, .inl (fun _ => (-1)))), (q10_, .inl (cy 0, 32, .inl (fun _ => 0))), (q11_, .inl (cy 0, 192, .inl (fun _ => 0))), (q12_, .inr (6, [.ref (u13_.1 0), .int 0, .int 0, .int 0])), (u13_.1 0, .inl (cy 0, 40, .inl (fun _ => 0))), (q14_, .inr (2, [.ref (u15_.1 0), .ref (u15_.1 1), .int 0, .int 0])), (u15_.1 0, .inl (cy 0, 16, .inl (fun _ => 0))), (u15_.1 1, .inl (cy 0, 16, .inl (fun _ => 0))), (q16_, .inr (2, [.ref (u17_.1 0), .ref (u17_.1 1), .int 0, .int 0])), (u17_.1 0, .inl (cy 0, 32, .inl (fun _ => 0))), (u17_.1 1, .inl (cy 0, 32, .inl (fun _ => 0)))]) [0, 1, 2, 3, 4, 5, 17, 6, 18, 19, 7, 8, 9, 10, 11, 12, 13, 14, 15, 16] (by decide) rfl
  exact W.vret hx hb hr (fun t ht hW => ⟨⟨((fun k => [q1_, q2_, q3_, q4_, q5_, q6_, q7_, q8_, q9_, q10_, q11_, q12_, q14_, q16_, u13_.1 0, u15_.1 0, u15_.1 1, u17_.1 0, u17_.1 1].getD k 0, fun k => [].getD k (fun _ => 0), fun k => [].getD k (fun _ => none)) : uS), rfl, trivial, (by rw [ht]; exact hP9), hD9⟩, hS.F ht⟩) hS.2.2 dX8_init_162

theorem dX4_init_0 : decode cX4_init 0 = .ok (.aload_n 0, 1) := by decide +kernel
theorem dX4_init_1 : decode cX4_init 1 = .ok (.invokespecial 3, 3) := by decide +kernel
theorem dX4_init_4 : decode cX4_init 4 = .ok (.aload_n 0, 1) := by decide +kernel
theorem dX4_init_5 : decode cX4_init 5 = .ok (.bipush 6, 2) := by decide +kernel
theorem dX4_init_7 : decode cX4_init 7 = .ok (.newarray .int, 2) := by decide +kernel
theorem dX4_init_9 : decode cX4_init 9 = .ok (.putfield 9, 3) := by decide +kernel
theorem dX4_init_12 : decode cX4_init 12 = .ok (.aload_n 0, 1) := by decide +kernel
theorem dX4_init_13 : decode cX4_init 13 = .ok (.bipush 60, 2) := by decide +kernel
theorem dX4_init_15 : decode cX4_init 15 = .ok (.newarray .int, 2) := by decide +kernel
theorem dX4_init_17 : decode cX4_init 17 = .ok (.putfield 15, 3) := by decide +kernel
theorem dX4_init_20 : decode cX4_init 20 = .ok (.return_, 1) := by decide +kernel
def v_X4_init : List Cond := .code yX4_init cX4_init 1 none :: ([.methodLink RX4 3 objectInit, .instanceMethod objectInit, .code objectInit ⟨#[0xb1]⟩ 1 none, .arrayClass .int, .fieldLink RX4 9 "RestBoard$Node" "values" "[I", .fieldLink RX4 15 "RestBoard$Node" "bytes" "[I"] ++ wsX40)
theorem m_X4_init_0 : (.methodLink RX4 3 objectInit : Cond) ∈ v_X4_init := List.mem_of_getElem? (i := 1) (by decide +kernel)
theorem m_X4_init_1 : (.instanceMethod objectInit : Cond) ∈ v_X4_init := List.mem_of_getElem? (i := 2) (by decide +kernel)
theorem m_X4_init_2 : (.code objectInit ⟨#[0xb1]⟩ 1 none : Cond) ∈ v_X4_init := List.mem_of_getElem? (i := 3) (by decide +kernel)
theorem m_X4_init_3 : (.arrayClass .int : Cond) ∈ v_X4_init := List.mem_of_getElem? (i := 4) (by decide +kernel)
theorem m_X4_init_4 : (.fieldLink RX4 9 "RestBoard$Node" "values" "[I" : Cond) ∈ v_X4_init := List.mem_of_getElem? (i := 5) (by decide +kernel)
theorem m_X4_init_5 : (.fieldLink RX4 15 "RestBoard$Node" "bytes" "[I" : Cond) ∈ v_X4_init := List.mem_of_getElem? (i := 6) (by decide +kernel)
theorem i_X4_init_X4 : ∀ w ∈ u_ws RX4 TX4 14, w ∈ v_X4_init := fun w h => List.mem_cons_of_mem _ (List.mem_append_right _ h)
set_option maxHeartbeats 4000000 in
set_option maxRecDepth 100000 in
theorem c_X4_init (l : Launch) (dC : Nat → ClassId) (dI : Nat → Nat → Nat) (cy : Nat → ClassId) (h : Nat) (sz : Nat) : Met l yX4_init v_X4_init ({ frames := 1, cells := 2, slots := 66, locals := 12 }) (va_Pc [.ref h] (ps dC dI cy ([(h, .inr (4, [.int 0, .int 0, .int 0, .int 0, .int 0, .int 0, .int 0, .int 0, .int 0, .int 0, .int 0, .int 0, .null, .null]))]) sz)) (va_Qv (fun (_ : uS) => True) (fun (u : uS) (t : State) => va_P (dC, dI) vwCl ([(h, .inr (4, [.int 0, .int 0, .int 0, .int 0, .int 0, .int 0, .int 0, .int 0, .int 0, .int 0, .int 0, .int 0, .ref (u.1 0), .ref (u.1 1)])), (u.1 0, .inl (cy 0, 6, .inl (fun _ => 0)))]) t.heap ∧ va_D (va_A ([(h, .inr (4, [.int 0, .int 0, .int 0, .int 0, .int 0, .int 0, .int 0, .int 0, .int 0, .int 0, .int 0, .int 0, .null, .null]))]) sz) ([(h, .inr (4, [.int 0, .int 0, .int 0, .int 0, .int 0, .int 0, .int 0, .int 0, .int 0, .int 0, .int 0, .int 0, .ref (u.1 0), .ref (u.1 1)])), (u.1 0, .inl (cy 0, 6, .inl (fun _ => 0)))])) (va_A ([(h, .inr (4, [.int 0, .int 0, .int 0, .int 0, .int 0, .int 0, .int 0, .int 0, .int 0, .int 0, .int 0, .int 0, .null, .null]))]) sz)) 2 66 (va_A ([(h, .inr (4, [.int 0, .int 0, .int 0, .int 0, .int 0, .int 0, .int 0, .int 0, .int 0, .int 0, .int 0, .int 0, .null, .null]))]) sz) := by
  refine Met.ofW (cc := cX4_init) (maxL := 1) (ret := none) (by decide) rfl ?_
  intro p e s m args below meth c s₁ B hml hv
  obtain ⟨rfl, hsz, hP, hC, hD0⟩ := hv
  have hK := hC.1
  have hx := B.exec
  have hb := B.bytes
  have hr := B.returns
  have hts := atoms_spec (ws := v_X4_init) B.pre
  have hown : s.vm.findClass RX4 = some m.cls := findClass_of_methodNamed B.named
  have hlocks := B.notSynchronized
  have hin : meth.name = "<init>" := (name_of_methodNamed B.named B.method).1
  subst hsz
  have hD := hD0.self (sz := s.heap.size)
  generalize hAe : va_A ([(h, .inr (4, [.int 0, .int 0, .int 0, .int 0, .int 0, .int 0, .int 0, .int 0, .int 0, .int 0, .int 0, .int 0, .null, .null]))]) s.heap.size = A at hD ⊢
  have hA : ∀ q : Nat, s.heap.size ≤ q → A q := fun q h => by rw [← hAe]; exact Or.inr h
  have hS : va_S A s.heap s.heap [] := va_S.rf
  have hl := lv_entry ([.ref h]) (n := 1) (Nat.le_of_ble_eq_true rfl)
  rw [lg_entry_eq]
  generalize (lg_sl ([.ref h]) ++ List.replicate (1 - (lg_sl ([.ref h])).length) Slot.unset).toArray = ls at hl ⊢
  have hl : lv_has ls 1 [(0, .ref h)] := hl
  refine lv_aload_n hx hb dX4_init_0 rfl (lv_at hl 0 rfl) ?_
  refine W.objInit hx hb hown (hts _ m_X4_init_0) (hts _ m_X4_init_1) (hts _ m_X4_init_2) rfl (by rw [hml]; exact hl.1) rfl dX4_init_1 (Nat.le_of_ble_eq_true rfl) (Nat.le_of_ble_eq_true rfl) ?_
  refine W.eq (g2 := F0 m 4 ls []) rfl ?_
  refine lv_aload_n hx hb dX4_init_4 rfl (lv_at hl 0 rfl) ?_
  refine lv_bipush (v := 6) hx hb dX4_init_5 (by decide) ?_
  refine va_newa (atype := .int) (N' := 6) (a0 := (6, .inl (fun _ => 0))) hx hb (hts _ m_X4_init_3) rfl hK hP hD hS hA (fun _ => rfl) (by decide) (by decide) (by decide) (Nat.le_of_ble_eq_true rfl) (Nat.le_of_ble_eq_true rfl) dX4_init_7 (fun q1_ cA_ H hKn hP hD hS => ?_)
  obtain rfl := va_K.oneI hKn
  have hP : va_P (dC, dI) vwCl [(h, .inr (4, [.int 0, .int 0, .int 0, .int 0, .int 0, .int 0, .int 0, .int 0, .int 0, .int 0, .int 0, .int 0, .null, .null])), (q1_, .inl (cy 0, 6, .inl (fun _ => 0)))] H := hP
  have hD : va_D A [(h, .inr (4, [.int 0, .int 0, .int 0, .int 0, .int 0, .int 0, .int 0, .int 0, .int 0, .int 0, .int 0, .int 0, .null, .null])), (q1_, .inl (cy 0, 6, .inl (fun _ => 0)))] := hD
  refine va_putF (D := (dC, dI)) (ci := 4) (v := .ref q1_) (ty := .array .int) (C := RX4) (T := TX4) (N := 14) hx hb hts i_X4_init_X4 tyX4 tyX4_ok nmX4 hown hK hP hD hS 0 rfl rfl 12 (by decide) (hts _ m_X4_init_4) (fun _ h9 => h9) rfl hin rfl (by decide +kernel) rfl rfl (Nat.le_of_ble_eq_true rfl) dX4_init_9 (fun H locs hP hD hS => ?_)
  have hP : va_P (dC, dI) vwCl [(h, .inr (4, [.int 0, .int 0, .int 0, .int 0, .int 0, .int 0, .int 0, .int 0, .int 0, .int 0, .int 0, .int 0, .ref q1_, .null])), (q1_, .inl (cy 0, 6, .inl (fun _ => 0)))] H := hP
  have hD : va_D A [(h, .inr (4, [.int 0, .int 0, .int 0, .int 0, .int 0, .int 0, .int 0, .int 0, .int 0, .int 0, .int 0, .int 0, .ref q1_, .null])), (q1_, .inl (cy 0, 6, .inl (fun _ => 0)))] := hD
  refine lv_aload_n hx hb dX4_init_12 rfl (lv_at hl 0 rfl) ?_
  refine lv_bipush (v := 60) hx hb dX4_init_13 (by decide) ?_
  refine va_newa (atype := .int) (N' := 60) (a0 := (60, .inl (fun _ => 0))) hx hb (hts _ m_X4_init_3) rfl hK hP hD hS hA (fun _ => rfl) (by decide) (by decide) (by decide) (Nat.le_of_ble_eq_true rfl) (Nat.le_of_ble_eq_true rfl) dX4_init_15 (fun q2_ cA_ H hKn hP hD hS => ?_)
  obtain rfl := va_K.oneI hKn
  have hP : va_P (dC, dI) vwCl [(h, .inr (4, [.int 0, .int 0, .int 0, .int 0, .int 0, .int 0, .int 0, .int 0, .int 0, .int 0, .int 0, .int 0, .ref q1_, .null])), (q1_, .inl (cy 0, 6, .inl (fun _ => 0))), (q2_, .inl (cy 0, 60, .inl (fun _ => 0)))] H := hP
  have hD : va_D A [(h, .inr (4, [.int 0, .int 0, .int 0, .int 0, .int 0, .int 0, .int 0, .int 0, .int 0, .int 0, .int 0, .int 0, .ref q1_, .null])), (q1_, .inl (cy 0, 6, .inl (fun _ => 0))), (q2_, .inl (cy 0, 60, .inl (fun _ => 0)))] := hD
  refine va_putF (D := (dC, dI)) (ci := 4) (v := .ref q2_) (ty := .array .int) (C := RX4) (T := TX4) (N := 14) hx hb hts i_X4_init_X4 tyX4 tyX4_ok nmX4 hown hK hP hD hS 0 rfl rfl 13 (by decide) (hts _ m_X4_init_5) (fun _ h9 => h9) rfl hin rfl (by decide +kernel) rfl rfl (Nat.le_of_ble_eq_true rfl) dX4_init_17 (fun H locs hP hD hS => ?_)
  have hP : va_P (dC, dI) vwCl [(h, .inr (4, [.int 0, .int 0, .int 0, .int 0, .int 0, .int 0, .int 0, .int 0, .int 0, .int 0, .int 0, .int 0, .ref q1_, .ref q2_])), (q1_, .inl (cy 0, 6, .inl (fun _ => 0))), (q2_, .inl (cy 0, 60, .inl (fun _ => 0)))] H := hP
  have hD : va_D A [(h, .inr (4, [.int 0, .int 0, .int 0, .int 0, .int 0, .int 0, .int 0, .int 0, .int 0, .int 0, .int 0, .int 0, .ref q1_, .ref q2_])), (q1_, .inl (cy 0, 6, .inl (fun _ => 0))), (q2_, .inl (cy 0, 60, .inl (fun _ => 0)))] := hD
  have hP9 := hP.sub (ws' := [(h, .inr (4, [.int 0, .int 0, .int 0, .int 0, .int 0, .int 0, .int 0, .int 0, .int 0, .int 0, .int 0, .int 0, .ref q1_, .ref q2_])), (q1_, .inl (cy 0, 6, .inl (fun _ => 0)))]) [0, 1] rfl
  have hD9 := hD.sub (ws' := [(h, .inr (4, [.int 0, .int 0, .int 0, .int 0, .int 0, .int 0, .int 0, .int 0, .int 0, .int 0, .int 0, .int 0, .ref q1_, .ref q2_])), (q1_, .inl (cy 0, 6, .inl (fun _ => 0)))]) [0, 1] (by decide) rfl
  exact W.vret hx hb hr (fun t ht hW => ⟨⟨((fun k => [q1_, q2_].getD k 0, fun k => [].getD k (fun _ => 0), fun k => [].getD k (fun _ => none)) : uS), rfl, trivial, (by rw [ht]; exact hP9), hD9⟩, hS.F ht⟩) hS.2.2 dX4_init_20

theorem dX4_begin_0 : decode cX4_begin 0 = .ok (.aload_n 0, 1) := by decide +kernel
theorem dX4_begin_1 : decode cX4_begin 1 = .ok (.iload_n 1, 1) := by decide +kernel
theorem dX4_begin_2 : decode cX4_begin 2 = .ok (.putfield 18, 3) := by decide +kernel
theorem dX4_begin_5 : decode cX4_begin 5 = .ok (.aload_n 0, 1) := by decide +kernel
theorem dX4_begin_6 : decode cX4_begin 6 = .ok (.iload_n 2, 1) := by decide +kernel
theorem dX4_begin_7 : decode cX4_begin 7 = .ok (.putfield 22, 3) := by decide +kernel
theorem dX4_begin_10 : decode cX4_begin 10 = .ok (.aload_n 0, 1) := by decide +kernel
theorem dX4_begin_11 : decode cX4_begin 11 = .ok (.iload_n 3, 1) := by decide +kernel
theorem dX4_begin_12 : decode cX4_begin 12 = .ok (.putfield 25, 3) := by decide +kernel
theorem dX4_begin_15 : decode cX4_begin 15 = .ok (.aload_n 0, 1) := by decide +kernel
theorem dX4_begin_16 : decode cX4_begin 16 = .ok (.iload 4, 2) := by decide +kernel
theorem dX4_begin_18 : decode cX4_begin 18 = .ok (.putfield 28, 3) := by decide +kernel
theorem dX4_begin_21 : decode cX4_begin 21 = .ok (.aload_n 0, 1) := by decide +kernel
theorem dX4_begin_22 : decode cX4_begin 22 = .ok (.iconst 0, 1) := by decide +kernel
theorem dX4_begin_23 : decode cX4_begin 23 = .ok (.putfield 31, 3) := by decide +kernel
theorem dX4_begin_26 : decode cX4_begin 26 = .ok (.aload_n 0, 1) := by decide +kernel
theorem dX4_begin_27 : decode cX4_begin 27 = .ok (.getfield 9, 3) := by decide +kernel
theorem dX4_begin_30 : decode cX4_begin 30 = .ok (.iconst 0, 1) := by decide +kernel
theorem dX4_begin_31 : decode cX4_begin 31 = .ok (.invokestatic 34, 3) := by decide +kernel
theorem dX4_begin_34 : decode cX4_begin 34 = .ok (.return_, 1) := by decide +kernel
def v_X4_begin : List Cond := .code yX4_begin cX4_begin 5 none :: ([.fieldLink RX4 18 "RestBoard$Node" "kind" "I", .fieldLink RX4 22 "RestBoard$Node" "name" "I", .fieldLink RX4 25 "RestBoard$Node" "parent" "I", .fieldLink RX4 28 "RestBoard$Node" "above" "I", .fieldLink RX4 31 "RestBoard$Node" "length" "I", .fieldLink RX4 9 "RestBoard$Node" "values" "[I", .methodLink RX4 34 yJ7_fill_53178, .static yJ7_fill_53178, .initialized RJ7, .code yJ7_fill_53178 cJ7_fill_53178 4 none] ++ wsX40)
theorem m_X4_begin_0 : (.fieldLink RX4 18 "RestBoard$Node" "kind" "I" : Cond) ∈ v_X4_begin := List.mem_of_getElem? (i := 1) (by decide +kernel)
theorem m_X4_begin_1 : (.fieldLink RX4 22 "RestBoard$Node" "name" "I" : Cond) ∈ v_X4_begin := List.mem_of_getElem? (i := 2) (by decide +kernel)
theorem m_X4_begin_2 : (.fieldLink RX4 25 "RestBoard$Node" "parent" "I" : Cond) ∈ v_X4_begin := List.mem_of_getElem? (i := 3) (by decide +kernel)
theorem m_X4_begin_3 : (.fieldLink RX4 28 "RestBoard$Node" "above" "I" : Cond) ∈ v_X4_begin := List.mem_of_getElem? (i := 4) (by decide +kernel)
theorem m_X4_begin_4 : (.fieldLink RX4 31 "RestBoard$Node" "length" "I" : Cond) ∈ v_X4_begin := List.mem_of_getElem? (i := 5) (by decide +kernel)
theorem m_X4_begin_5 : (.fieldLink RX4 9 "RestBoard$Node" "values" "[I" : Cond) ∈ v_X4_begin := List.mem_of_getElem? (i := 6) (by decide +kernel)
theorem i_X4_begin_X4 : ∀ w ∈ u_ws RX4 TX4 14, w ∈ v_X4_begin := fun w h => List.mem_cons_of_mem _ (List.mem_append_right _ h)
set_option maxRecDepth 100000 in
theorem gg_X4_begin_J7_fill_53178_34 : GoodIn v_X4_begin v_J7_fill_53178 := goodIn_r _ [10] (by decide +kernel) (by decide +kernel)
set_option maxRecDepth 100000 in
theorem g_X4_begin_J7_fill_53178_34 : GoodIn v_X4_begin (va_wsS RX4 34 yJ7_fill_53178 v_J7_fill_53178) := goodIn_app (goodIn_r _ [7, 8, 9] (by decide +kernel) (by decide +kernel)) gg_X4_begin_J7_fill_53178_34
set_option maxHeartbeats 4000000 in
set_option maxRecDepth 100000 in
theorem c_X4_begin (l : Launch) (dC : Nat → ClassId) (dI : Nat → Nat → Nat) (cy : Nat → ClassId) (h : Nat) (v1 : Nat) (v2 : Nat) (sz : Nat) : Met l yX4_begin v_X4_begin ({ frames := 1, cells := 0, slots := 0, locals := 23 }) (va_Pc [.ref h, .int 1, .int 0, .int (-1), .int 0] (ps dC dI cy ([(h, .inr (4, [.int 0, .int 0, .int 0, .int 0, .int 0, .int 0, .int 0, .int 0, .int 0, .int 0, .int 0, .int 0, .ref v1, .ref v2])), (v1, .inl (cy 0, 6, .inl (fun _ => 0)))]) sz)) (va_Qv (fun (_ : uS) => True) (fun (_ : uS) (t : State) => va_P (dC, dI) vwCl ([(h, .inr (4, [.int 1, .int 0, .int (-1), .int 0, .int 0, .int 0, .int 0, .int 0, .int 0, .int 0, .int 0, .int 0, .ref v1, .ref v2]))]) t.heap ∧ va_D (va_A ([(h, .inr (4, [.int 0, .int 0, .int 0, .int 0, .int 0, .int 0, .int 0, .int 0, .int 0, .int 0, .int 0, .int 0, .ref v1, .ref v2])), (v1, .inl (cy 0, 6, .inl (fun _ => 0)))]) sz) ([(h, .inr (4, [.int 1, .int 0, .int (-1), .int 0, .int 0, .int 0, .int 0, .int 0, .int 0, .int 0, .int 0, .int 0, .ref v1, .ref v2]))])) (va_A ([(h, .inr (4, [.int 0, .int 0, .int 0, .int 0, .int 0, .int 0, .int 0, .int 0, .int 0, .int 0, .int 0, .int 0, .ref v1, .ref v2])), (v1, .inl (cy 0, 6, .inl (fun _ => 0)))]) sz)) 0 0 (va_A ([(h, .inr (4, [.int 0, .int 0, .int 0, .int 0, .int 0, .int 0, .int 0, .int 0, .int 0, .int 0, .int 0, .int 0, .ref v1, .ref v2])), (v1, .inl (cy 0, 6, .inl (fun _ => 0)))]) sz) := by
  refine Met.ofW (cc := cX4_begin) (maxL := 5) (ret := none) (by decide) rfl ?_
  intro p e s m args below meth c s₁ B hml hv
  obtain ⟨rfl, hsz, hP, hC, hD0⟩ := hv
  have hK := hC.1
  have hx := B.exec
  have hb := B.bytes
  have hr := B.returns
  have hts := atoms_spec (ws := v_X4_begin) B.pre
  have hown : s.vm.findClass RX4 = some m.cls := findClass_of_methodNamed B.named
  have hlocks := B.notSynchronized
  subst hsz
  have hD := hD0.self (sz := s.heap.size)
  generalize hAe : va_A ([(h, .inr (4, [.int 0, .int 0, .int 0, .int 0, .int 0, .int 0, .int 0, .int 0, .int 0, .int 0, .int 0, .int 0, .ref v1, .ref v2])), (v1, .inl (cy 0, 6, .inl (fun _ => 0)))]) s.heap.size = A at hD ⊢
  have hA : ∀ q : Nat, s.heap.size ≤ q → A q := fun q h => by rw [← hAe]; exact Or.inr h
  have hS : va_S A s.heap s.heap [] := va_S.rf
  have hl := lv_entry ([.ref h, .int 1, .int 0, .int (-1), .int 0]) (n := 5) (Nat.le_of_ble_eq_true rfl)
  rw [lg_entry_eq]
  generalize (lg_sl ([.ref h, .int 1, .int 0, .int (-1), .int 0]) ++ List.replicate (5 - (lg_sl ([.ref h, .int 1, .int 0, .int (-1), .int 0])).length) Slot.unset).toArray = ls at hl ⊢
  have hl : lv_has ls 5 [(0, .ref h), (1, .int 1), (2, .int 0), (3, .int (-1)), (4, .int 0)] := hl
  refine lv_aload_n hx hb dX4_begin_0 rfl (lv_at hl 0 rfl) ?_
  refine lv_iload_n hx hb dX4_begin_1 rfl (lv_at hl 1 rfl) ?_
  refine va_put (D := (dC, dI)) (ci := 4) (v := .int 1) (ty := .int) (C := RX4) (T := TX4) (N := 14) hx hb hts i_X4_begin_X4 tyX4 tyX4_ok nmX4 hown hK hP hD hS 0 rfl rfl 0 (by decide) (hts _ m_X4_begin_0) (fun _ h9 => h9) rfl (by decide +kernel) rfl rfl (Nat.le_of_ble_eq_true rfl) dX4_begin_2 (fun H locs hP hD hS => ?_)
  have hP : va_P (dC, dI) vwCl [(h, .inr (4, [.int 1, .int 0, .int 0, .int 0, .int 0, .int 0, .int 0, .int 0, .int 0, .int 0, .int 0, .int 0, .ref v1, .ref v2])), (v1, .inl (cy 0, 6, .inl (fun _ => 0)))] H := hP
  have hD : va_D A [(h, .inr (4, [.int 1, .int 0, .int 0, .int 0, .int 0, .int 0, .int 0, .int 0, .int 0, .int 0, .int 0, .int 0, .ref v1, .ref v2])), (v1, .inl (cy 0, 6, .inl (fun _ => 0)))] := hD
  refine lv_aload_n hx hb dX4_begin_5 rfl (lv_at hl 0 rfl) ?_
  refine lv_iload_n hx hb dX4_begin_6 rfl (lv_at hl 2 rfl) ?_
  refine va_put (D := (dC, dI)) (ci := 4) (v := .int 0) (ty := .int) (C := RX4) (T := TX4) (N := 14) hx hb hts i_X4_begin_X4 tyX4 tyX4_ok nmX4 hown hK hP hD hS 0 rfl rfl 1 (by decide) (hts _ m_X4_begin_1) (fun _ h9 => h9) rfl (by decide +kernel) rfl rfl (Nat.le_of_ble_eq_true rfl) dX4_begin_7 (fun H locs hP hD hS => ?_)
  have hP : va_P (dC, dI) vwCl [(h, .inr (4, [.int 1, .int 0, .int 0, .int 0, .int 0, .int 0, .int 0, .int 0, .int 0, .int 0, .int 0, .int 0, .ref v1, .ref v2])), (v1, .inl (cy 0, 6, .inl (fun _ => 0)))] H := hP
  have hD : va_D A [(h, .inr (4, [.int 1, .int 0, .int 0, .int 0, .int 0, .int 0, .int 0, .int 0, .int 0, .int 0, .int 0, .int 0, .ref v1, .ref v2])), (v1, .inl (cy 0, 6, .inl (fun _ => 0)))] := hD
  refine lv_aload_n hx hb dX4_begin_10 rfl (lv_at hl 0 rfl) ?_
  refine lv_iload_n hx hb dX4_begin_11 rfl (lv_at hl 3 rfl) ?_
  refine va_put (D := (dC, dI)) (ci := 4) (v := .int (-1)) (ty := .int) (C := RX4) (T := TX4) (N := 14) hx hb hts i_X4_begin_X4 tyX4 tyX4_ok nmX4 hown hK hP hD hS 0 rfl rfl 2 (by decide) (hts _ m_X4_begin_2) (fun _ h9 => h9) rfl (by decide +kernel) rfl rfl (Nat.le_of_ble_eq_true rfl) dX4_begin_12 (fun H locs hP hD hS => ?_)
  have hP : va_P (dC, dI) vwCl [(h, .inr (4, [.int 1, .int 0, .int (-1), .int 0, .int 0, .int 0, .int 0, .int 0, .int 0, .int 0, .int 0, .int 0, .ref v1, .ref v2])), (v1, .inl (cy 0, 6, .inl (fun _ => 0)))] H := hP
  have hD : va_D A [(h, .inr (4, [.int 1, .int 0, .int (-1), .int 0, .int 0, .int 0, .int 0, .int 0, .int 0, .int 0, .int 0, .int 0, .ref v1, .ref v2])), (v1, .inl (cy 0, 6, .inl (fun _ => 0)))] := hD
  refine lv_aload_n hx hb dX4_begin_15 rfl (lv_at hl 0 rfl) ?_
  refine lv_iload hx hb dX4_begin_16 (lv_at hl 4 rfl) ?_
  refine va_put (D := (dC, dI)) (ci := 4) (v := .int 0) (ty := .int) (C := RX4) (T := TX4) (N := 14) hx hb hts i_X4_begin_X4 tyX4 tyX4_ok nmX4 hown hK hP hD hS 0 rfl rfl 3 (by decide) (hts _ m_X4_begin_3) (fun _ h9 => h9) rfl (by decide +kernel) rfl rfl (Nat.le_of_ble_eq_true rfl) dX4_begin_18 (fun H locs hP hD hS => ?_)
  have hP : va_P (dC, dI) vwCl [(h, .inr (4, [.int 1, .int 0, .int (-1), .int 0, .int 0, .int 0, .int 0, .int 0, .int 0, .int 0, .int 0, .int 0, .ref v1, .ref v2])), (v1, .inl (cy 0, 6, .inl (fun _ => 0)))] H := hP
  have hD : va_D A [(h, .inr (4, [.int 1, .int 0, .int (-1), .int 0, .int 0, .int 0, .int 0, .int 0, .int 0, .int 0, .int 0, .int 0, .ref v1, .ref v2])), (v1, .inl (cy 0, 6, .inl (fun _ => 0)))] := hD
  refine lv_aload_n hx hb dX4_begin_21 rfl (lv_at hl 0 rfl) ?_
  refine lv_iconst (v := 0) hx hb dX4_begin_22 (by decide) ?_
  refine va_put (D := (dC, dI)) (ci := 4) (v := .int 0) (ty := .int) (C := RX4) (T := TX4) (N := 14) hx hb hts i_X4_begin_X4 tyX4 tyX4_ok nmX4 hown hK hP hD hS 0 rfl rfl 7 (by decide) (hts _ m_X4_begin_4) (fun _ h9 => h9) rfl (by decide +kernel) rfl rfl (Nat.le_of_ble_eq_true rfl) dX4_begin_23 (fun H locs hP hD hS => ?_)
  have hP : va_P (dC, dI) vwCl [(h, .inr (4, [.int 1, .int 0, .int (-1), .int 0, .int 0, .int 0, .int 0, .int 0, .int 0, .int 0, .int 0, .int 0, .ref v1, .ref v2])), (v1, .inl (cy 0, 6, .inl (fun _ => 0)))] H := hP
  have hD : va_D A [(h, .inr (4, [.int 1, .int 0, .int (-1), .int 0, .int 0, .int 0, .int 0, .int 0, .int 0, .int 0, .int 0, .int 0, .ref v1, .ref v2])), (v1, .inl (cy 0, 6, .inl (fun _ => 0)))] := hD
  refine lv_aload_n hx hb dX4_begin_26 rfl (lv_at hl 0 rfl) ?_
  refine va_get (D := (dC, dI)) (ci := 4) (v := .ref v1) (C := RX4) (T := TX4) (N := 14) hx hb hts i_X4_begin_X4 hown hK hP 0 rfl rfl 12 (by decide) (hts _ m_X4_begin_5) (fun _ h9 => h9) rfl dX4_begin_27 ?_
  refine lv_iconst (v := 0) hx hb dX4_begin_30 (by decide) ?_
  have hPc : va_P (dC, dI) vwCl ([(v1, .inl (cy 0, 6, .inl (fun _ => 0)))]) _ := hP.sub [1] rfl
  have hDc := hD.sub (ws' := [(v1, .inl (cy 0, 6, .inl (fun _ => 0)))]) [1] (by decide) rfl
  have hFc := va_free (wc := [(v1, .inl (cy 0, 6, .inl (fun _ => 0)))]) hD hS hA [1] rfl
  refine va_callv (va_runS (As := [.ref v1, .int 0]) (rest := []) ⟨hx, hb, hml, hown, hts⟩ (c_J7_fill_53178 l dC dI cy v1 6 ((fun _ => 0)) _ 0 (by decide)) (va_cwS 2 hts g_X4_begin_J7_fill_53178_34 rfl rfl rfl (by decide +kernel) ⟨Nat.le_of_ble_eq_true rfl, Nat.le_of_ble_eq_true rfl⟩) (pS_ps hC hPc hDc) rfl rfl hl.1 rfl (lv_room (Nat.le_of_ble_eq_true rfl)) dX4_begin_31 ⟨Nat.le_of_ble_eq_true rfl, Nat.le_of_ble_eq_true rfl⟩) hS (fun q _ h => hFc q h) hFc (fun u t_ H1 locs ht hvm hw hB hz1 hk1 hS => ?_)
  obtain ⟨u1_, rfl⟩ : ∃ z, z = u := ⟨_, rfl⟩
  obtain ⟨hP1, hD1⟩ := hB
  rw [ht] at hP1
  obtain ⟨hP, hD⟩ := va_join (wr := [(h, .inr (4, [.int 1, .int 0, .int (-1), .int 0, .int 0, .int 0, .int 0, .int 0, .int 0, .int 0, .int 0, .int 0, .ref v1, .ref v2]))]) (w1 := [(v1, .inl (cy 0, 6, .inl (fun _ => 0)))]) hP hD [1] [0] rfl rfl (by decide) (by decide) hk1 hFc hP1 hD1
  generalize H1 = H at hP hS ⊢
  have hP : va_P (dC, dI) vwCl ([(h, .inr (4, [.int 1, .int 0, .int (-1), .int 0, .int 0, .int 0, .int 0, .int 0, .int 0, .int 0, .int 0, .int 0, .ref v1, .ref v2])), (v1, .inl (cy 0, 6, .inl (fun _ => 0)))]) H := hP
  have hD : va_D A ([(h, .inr (4, [.int 1, .int 0, .int (-1), .int 0, .int 0, .int 0, .int 0, .int 0, .int 0, .int 0, .int 0, .int 0, .ref v1, .ref v2])), (v1, .inl (cy 0, 6, .inl (fun _ => 0)))]) := hD
  have hP9 := hP.sub (ws' := [(h, .inr (4, [.int 1, .int 0, .int (-1), .int 0, .int 0, .int 0, .int 0, .int 0, .int 0, .int 0, .int 0, .int 0, .ref v1, .ref v2]))]) [0] rfl
  have hD9 := hD.sub (ws' := [(h, .inr (4, [.int 1, .int 0, .int (-1), .int 0, .int 0, .int 0, .int 0, .int 0, .int 0, .int 0, .int 0, .int 0, .ref v1, .ref v2]))]) [0] (by decide) rfl
  exact W.vret hx hb hr (fun t ht hW => ⟨⟨((fun k => [].getD k 0, fun k => [].getD k (fun _ => 0), fun k => [].getD k (fun _ => none)) : uS), rfl, trivial, (by rw [ht]; exact hP9), hD9⟩, hS.F ht⟩) hS.2.2 dX4_begin_34

