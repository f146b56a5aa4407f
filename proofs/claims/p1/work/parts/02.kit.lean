-- rows of my own: small steps of the walk, the known classes, calls of contracts
section TK
variable {p : Program} {l : Launch} {e : Env} {R : Room} {s : State} {m : MethodId} {args : Array Value} {below : List Frame} {meth : Method} {c : Code} {H : Heap} {locs : List Loc} {cells slots : Nat} {Q : State → Prop}
variable {pc : Nat} {ls : Array Slot} {rest : List Value}
theorem tk_v {x : Value} (y : Value) (h : x = y) (k : W p l e R s m args below meth c H locs cells slots Q (F0 m pc ls (y :: rest))) : W p l e R s m args below meth c H locs cells slots Q (F0 m pc ls (x :: rest)) := by subst h; exact k
theorem tk_i {x : Int32} (y : Int32) (h : x = y) (k : W p l e R s m args below meth c H locs cells slots Q (F0 m pc ls (.int y :: rest))) : W p l e R s m args below meth c H locs cells slots Q (F0 m pc ls (.int x :: rest)) := by subst h; exact k
theorem tk_l {x : Int64} (y : Int64) (h : x = y) (k : W p l e R s m args below meth c H locs cells slots Q (F0 m pc ls (.long y :: rest))) : W p l e R s m args below meth c H locs cells slots Q (F0 m pc ls (.long x :: rest)) := by subst h; exact k
end TK
theorem sh_0 (y : Int32) : (0 : Int32) >>> y = 0 := by
  apply Int32.toBitVec_inj.mp
  simp
theorem va_up_id {α : Type} {f : Nat → α} {k : Nat} {v : α} (h : f k = v) : f = va_up f k v := by
  funext j
  by_cases q : j = k
  · subst q
    simp [va_up, h]
  · simp [va_up, q]
theorem va_P0 {D : va_G} {cl : List vw_C} {H : Heap} : va_P D cl [] H := fun k q h => by simp at h
theorem va_D0 {A : Nat → Prop} : va_D A [] := ⟨fun i j p q h => by simp at h, fun k q h => by simp at h⟩
-- conditions on an Int32 against a number, as facts of whole numbers
theorem tz_lt_r {x k : Int32} {z : Int} (h : x < k) (e : k.toInt = z) : x.toInt < z := by rw [← e]; exact Int32.lt_iff_toInt_lt.mp h
theorem tz_nlt_r {x k : Int32} {z : Int} (h : ¬ x < k) (e : k.toInt = z) : z ≤ x.toInt := by
  rw [← e]
  exact Int.not_lt.mp (fun q => h (Int32.lt_iff_toInt_lt.mpr q))
theorem tz_lt_l {x k : Int32} {z : Int} (h : k < x) (e : k.toInt = z) : z < x.toInt := by rw [← e]; exact Int32.lt_iff_toInt_lt.mp h
theorem tz_nlt_l {x k : Int32} {z : Int} (h : ¬ k < x) (e : k.toInt = z) : x.toInt ≤ z := by
  rw [← e]
  exact Int.not_lt.mp (fun q => h (Int32.lt_iff_toInt_lt.mpr q))
theorem tz_le_r {x k : Int32} {z : Int} (h : x ≤ k) (e : k.toInt = z) : x.toInt ≤ z := by rw [← e]; exact Int32.le_iff_toInt_le.mp h
theorem tz_nle_r {x k : Int32} {z : Int} (h : ¬ x ≤ k) (e : k.toInt = z) : z < x.toInt := by
  rw [← e]
  exact Int.not_le.mp (fun q => h (Int32.le_iff_toInt_le.mpr q))
theorem tz_le_l {x k : Int32} {z : Int} (h : k ≤ x) (e : k.toInt = z) : z ≤ x.toInt := by rw [← e]; exact Int32.le_iff_toInt_le.mp h
theorem tz_nle_l {x k : Int32} {z : Int} (h : ¬ k ≤ x) (e : k.toInt = z) : x.toInt < z := by
  rw [← e]
  exact Int.not_le.mp (fun q => h (Int32.le_iff_toInt_le.mpr q))
theorem tz_eq_r {x k : Int32} {z : Int} (h : x = k) (e : k.toInt = z) : x.toInt = z := by rw [h]; exact e
theorem tz_neq_r {x k : Int32} {z : Int} (h : ¬ x = k) (e : k.toInt = z) : ¬ x.toInt = z := fun q => h (Int32.toInt_inj.mp (q.trans e.symm))
theorem tz_eq_l {x k : Int32} {z : Int} (h : k = x) (e : k.toInt = z) : x.toInt = z := by rw [← h]; exact e
theorem tz_neq_l {x k : Int32} {z : Int} (h : ¬ k = x) (e : k.toInt = z) : ¬ x.toInt = z := fun q => h (Int32.toInt_inj.mp (e.trans q.symm))
theorem tz_pin {x k : Int32} {z : Int} (e : k.toInt = z) (h : x.toInt = z) : x = k := Int32.toInt_inj.mp (h.trans e.symm)
theorem tb_bmod {z : Int} (h1 : -2147483648 ≤ z) (h2 : z < 2147483648) : z.bmod (2 ^ 32) = z := by
  rw [Int.bmod_eq_of_le (by omega) (by omega)]
theorem sub_in {x k : Int32} {a : Int} {n : Nat} (hk : k.toInt = a) (h0 : 0 ≤ a) (h1 : a ≤ x.toInt) (h2 : x.toInt < a + n) : vp_in (x - k) n := by
  have h3 := Int32.toInt_lt x
  have e : (x - k).toInt = x.toInt - a := by
    rw [Int32.toInt_sub, hk, tb_bmod (by omega) (by omega)]
  rw [vp_in_iff, e]
  omega
theorem rg_num {x y : Int32} (h1 : ¬ x < 0) (h2 : ¬ 4 < x) (h3 : ¬ y < 0) (h4 : y < 8) : ∃ i j : Nat, i ≤ 4 ∧ j ≤ 7 ∧ x = nI i ∧ y = nI j := by
  obtain ⟨i, hi, e1⟩ := nI_of2 (M := 4) (n := 4) (by decide) h1 (Int32.not_lt.mp h2)
  have z := tz_lt_r h4 (show (8 : Int32).toInt = 8 by decide)
  obtain ⟨j, hj, e2⟩ := nI_of2 (x := y) (M := 7) (n := 7) (by decide) h3 (Int32.le_iff_toInt_le.mpr (by rw [show (7 : Int32).toInt = 7 by decide]; omega))
  exact ⟨i, j, hi, hj, e1, e2⟩
theorem rg_in {x y : Int32} (h1 : ¬ x < 0) (h2 : ¬ 4 < x) (h3 : ¬ y < 0) (h4 : y < 8) : vp_in (x * 8 + y) 40 := by
  obtain ⟨i, j, hi, hj, rfl, rfl⟩ := rg_num h1 h2 h3 h4
  have e : nI i * 8 + nI j = nI (i * 8 + j) := by rw [show (8 : Int32) = nI 8 from rfl, pk_mul, nI_add]
  rw [e]
  exact vp_in_nI (by omega) (by decide)
-- the classes, the arrays' classes and the private links, as a contract's start has them
abbrev ft (cy : Nat → ClassId) : List (ClassId × FieldType) := [(cy 0, .int), (cy 1, .object RX4), (cy 2, .object RX8), (cy 3, .object RX0), (cy 4, .boolean)]
def cK (dC : Nat → ClassId) (dI : Nat → Nat → Nat) (cy : Nat → ClassId) (U : State) : Prop := va_K (dC, dI) vwCl (ft cy) U ∧ va_Nw (.methodLinkNest RX8 51 yX6_init RX11) U ∧ va_Nw (.methodLinkNest RX10 21 yX4_init RX11) U ∧ va_AO RX0 U ∧ va_AO RX4 U ∧ va_AO RX8 U
theorem cK.warm {dC : Nat → ClassId} {dI : Nat → Nat → Nat} {cy : Nat → ClassId} {s U : State} (h : cK dC dI cy s) (hW : s.WarmedH U.vm) : cK dC dI cy U := ⟨va_K.moved hW.alike h.1, va_Nw.warmM hW h.2.1, va_Nw.warmM hW h.2.2.1, va_AO.moved hW.alike h.2.2.2.1, va_AO.moved hW.alike h.2.2.2.2.1, va_AO.moved hW.alike h.2.2.2.2.2⟩
theorem cK.calling {dC : Nat → ClassId} {dI : Nat → Nat → Nat} {cy : Nat → ClassId} {U : State} {g : JFrame} {mk : MethodId} {a : Array Value} (h : cK dC dI cy U) : cK dC dI cy (U.calling g mk a) := ⟨va_K.moved (u := U) (U := U.calling g mk a) (Vm.Alike.refl U.vm) h.1, va_Nw.same rfl (u := U) (U := U.calling g mk a) rfl h.2.1, va_Nw.same rfl (u := U) (U := U.calling g mk a) rfl h.2.2.1, va_AO.moved (u := U) (U := U.calling g mk a) (Vm.Alike.refl U.vm) h.2.2.2.1, va_AO.moved (u := U) (U := U.calling g mk a) (Vm.Alike.refl U.vm) h.2.2.2.2.1, va_AO.moved (u := U) (U := U.calling g mk a) (Vm.Alike.refl U.vm) h.2.2.2.2.2⟩
theorem va_K.oneI {D : va_G} {cl : List vw_C} {cy : Nat → ClassId} {cA : ClassId} {s : State} (h : va_K D cl (ft cy ++ [(cA, .int)]) s) : cA = cy 0 := by
  have h1 : s.vm.findClass ("[" ++ (FieldType.int).toString) = some (cy 0) := (h.2 0 (cy 0, .int) rfl).2
  have h2 : s.vm.findClass ("[" ++ (FieldType.int).toString) = some cA := (h.2 5 (cA, .int) rfl).2
  exact Option.some.inj (h2.symm.trans h1)
theorem va_K.oneZ {D : va_G} {cl : List vw_C} {cy : Nat → ClassId} {cA : ClassId} {s : State} (h : va_K D cl (ft cy ++ [(cA, .boolean)]) s) : cA = cy 4 := by
  have h1 : s.vm.findClass ("[" ++ (FieldType.boolean).toString) = some (cy 4) := (h.2 4 (cy 4, .boolean) rfl).2
  have h2 : s.vm.findClass ("[" ++ (FieldType.boolean).toString) = some cA := (h.2 5 (cA, .boolean) rfl).2
  exact Option.some.inj (h2.symm.trans h1)
theorem va_K.oneO {D : va_G} {cl : List vw_C} {cy : Nat → ClassId} {cA : ClassId} {s : State} (k : Nat) {C : String} (hk : (ft cy)[k]? = some (cy k, .object C)) (h : va_K D cl (ft cy ++ [(cA, .object C)]) s) : cA = cy k := by
  have h0 : (ft cy ++ [(cA, FieldType.object C)])[k]? = some (cy k, .object C) := by
    rw [List.getElem?_append_left (List.getElem?_eq_some_iff.mp hk).1]
    exact hk
  obtain ⟨_, _, _, _, _, h1⟩ := (h.2 k (cy k, .object C) h0).2
  obtain ⟨_, _, _, _, _, h2⟩ := (h.2 5 (cA, .object C) rfl).2
  exact Option.some.inj (h2.symm.trans h1)
def pp (dC : Nat → ClassId) (dI : Nat → Nat → Nat) (cy : Nat → ClassId) (ws : va_W) (U : State) : Prop := va_P (dC, dI) vwCl ws U.heap ∧ cK dC dI cy U
def ps (dC : Nat → ClassId) (dI : Nat → Nat → Nat) (cy : Nat → ClassId) (ws : va_W) (sz : Nat) (U : State) : Prop := U.heap.size = sz ∧ va_P (dC, dI) vwCl ws U.heap ∧ cK dC dI cy U ∧ va_D (fun _ => True) ws
abbrev uS : Type := (Nat → Nat) × (Nat → Nat → Int32) × (Nat → Nat → Option Nat)
theorem lgc_wide_lt (a b : Int32) : a.toInt64 < b.toInt64 ↔ a < b := by rw [Int64.lt_iff_toInt_lt, Int32.lt_iff_toInt_lt, Int32.toInt_toInt64, Int32.toInt_toInt64]
theorem lgc_wide_eq (a b : Int32) : a.toInt64 = b.toInt64 ↔ a = b := by rw [← Int64.toInt_inj, ← Int32.toInt_inj, Int32.toInt_toInt64, Int32.toInt_toInt64]
theorem lgc_gt {x y : Int32} : 0 < lg_cmp x.toInt64 y.toInt64 ↔ y < x := by rw [lg_cmp_gt, lgc_wide_lt]
theorem lgc_eq {x y : Int32} : lg_cmp x.toInt64 y.toInt64 = 0 ↔ x = y := by rw [lg_cmp_eq, lgc_wide_eq]
theorem lgc_lt {x y : Int32} : lg_cmp x.toInt64 y.toInt64 < 0 ↔ x < y := by rw [lg_cmp_lt, lgc_wide_lt]
section TKC
variable {p : Program} {l : Launch} {e : Env} {R : Room} {s : State} {m : MethodId} {args : Array Value} {below : List Frame} {meth : Method} {c : Code} {H : Heap} {locs : List Loc} {cells slots : Nat} {Q : State → Prop}
variable {pc : Nat} {ls : Array Slot} {rest st0 : List Value} {a : Array Value} {A0 : Nat → Prop} {H0 : Heap}
variable {dC : Nat → ClassId} {dI : Nat → Nat → Nat} {cy : Nat → ClassId} {ws : va_W} {b : Nat} {As : List Value} {C : String} {T : u_T} {N ci q0 : Nat} {fs : List Value}
theorem bl_pp {av : List Value} : FrameBlind (va_Pc av (pp dC dI cy ws)) := fun _ _ _ _ q => ⟨q.1, q.2.1, q.2.2.calling⟩
theorem bl_ps {av : List Value} {sz : Nat} : FrameBlind (va_Pc av (ps dC dI cy ws sz)) := fun _ _ _ _ q => ⟨q.1, q.2.1, q.2.2.1, q.2.2.2.1.calling, q.2.2.2.2⟩
theorem pv_pp (hC : cK dC dI cy s) (hP : va_P (dC, dI) vwCl ws H) (hc : vwCl[ci]? = some (C, T, N)) (he : ws[q0]? = some (b, .inr (ci, fs))) : PreV s H C b (va_Pc (.ref b :: As) (pp dC dI cy ws)) As := ⟨bl_pp, va_recv hC.1 hP hc he, fun U hU hW => ⟨rfl, by rw [hU]; exact hP, hC.warm hW⟩⟩
theorem pv_ps (hC : cK dC dI cy s) (hP : va_P (dC, dI) vwCl ws H) {A : Nat → Prop} (hD : va_D A ws) (hc : vwCl[ci]? = some (C, T, N)) (he : ws[q0]? = some (b, .inr (ci, fs))) : PreV s H C b (va_Pc (.ref b :: As) (ps dC dI cy ws H.size)) As := ⟨bl_ps, va_recv hC.1 hP hc he, fun U hU hW => ⟨rfl, by rw [hU], by rw [hU]; exact hP, hC.warm hW, hD.weaken (fun _ _ _ _ => trivial)⟩⟩
theorem pS_pp (hC : cK dC dI cy s) (hP : va_P (dC, dI) vwCl ws H) : PreS s H (va_Pc As (pp dC dI cy ws)) As := ⟨bl_pp, fun U hU hW => ⟨rfl, by rw [hU]; exact hP, hC.warm hW⟩⟩
theorem pS_ps (hC : cK dC dI cy s) (hP : va_P (dC, dI) vwCl ws H) {A : Nat → Prop} (hD : va_D A ws) : PreS s H (va_Pc As (ps dC dI cy ws H.size)) As := ⟨bl_ps, fun U hU hW => ⟨rfl, by rw [hU], by rw [hU]; exact hP, hC.warm hW, hD.weaken (fun _ _ _ _ => trivial)⟩⟩
theorem tk_pi {D : va_G} {cl : List vw_C} {post : Int32 → Unit → Prop} (hr : va_Run p l e R s m args below meth c H locs cells slots 0 0 (F0 m pc ls st0) rest (va_Qi post (fun _ _ => True) (fun _ => False) a) (fun _ => False)) (hP : va_P D cl ws H) (hS : va_S A0 H0 H locs) (kk : ∀ (r : Int32) (H1 : Heap) (locs1 : List Loc), post r () → va_P D cl ws H1 → va_S A0 H0 H1 locs1 → W p l e R s m args below meth c H1 locs1 cells slots Q (F0 m (pc + 3) ls (.int r :: rest))) : W p l e R s m args below meth c H locs cells slots Q (F0 m pc ls st0) :=
  va_calli hr hS (fun _ _ h => h.elim) (fun _ h => h.elim) (fun r _ _ H1 locs1 _ _ hw _ _ hk hS1 => kk r H1 locs1 hw (hP.kept (fun k q hq => hk q.1 (hP k q hq).lt (fun h => h))) hS1)
theorem tk_pl {D : va_G} {cl : List vw_C} {post : Int64 → Unit → Prop} (hr : va_Run p l e R s m args below meth c H locs cells slots 0 0 (F0 m pc ls st0) rest (va_Ql post (fun _ _ => True) (fun _ => False) a) (fun _ => False)) (hP : va_P D cl ws H) (hS : va_S A0 H0 H locs) (kk : ∀ (r : Int64) (H1 : Heap) (locs1 : List Loc), post r () → va_P D cl ws H1 → va_S A0 H0 H1 locs1 → W p l e R s m args below meth c H1 locs1 cells slots Q (F0 m (pc + 3) ls (.long r :: rest))) : W p l e R s m args below meth c H locs cells slots Q (F0 m pc ls st0) :=
  va_calll hr hS (fun _ _ h => h.elim) (fun _ h => h.elim) (fun r _ _ H1 locs1 _ _ hw _ _ hk hS1 => kk r H1 locs1 hw (hP.kept (fun k q hq => hk q.1 (hP k q hq).lt (fun h => h))) hS1)
end TKC

set_option maxRecDepth 100000 in
theorem tfX0 : ∀ j, j < 13 → defaultValue (tyX0 j) = vp_V [.int 0, .int 0, .int 0, .int 0, .int 0, .int 0, .int 0, .null, .null, .null, .null, .null, .null] j := by
  intro j hj
  rcases (show j = 0 ∨ j = 1 ∨ j = 2 ∨ j = 3 ∨ j = 4 ∨ j = 5 ∨ j = 6 ∨ j = 7 ∨ j = 8 ∨ j = 9 ∨ j = 10 ∨ j = 11 ∨ j = 12 by omega) with rfl | rfl | rfl | rfl | rfl | rfl | rfl | rfl | rfl | rfl | rfl | rfl | rfl <;> rfl
set_option maxRecDepth 100000 in
theorem tfX1 : ∀ j, j < 5 → defaultValue (tyX1 j) = vp_V [.null, .null, .null, .int 0, .int 0] j := by
  intro j hj
  rcases (show j = 0 ∨ j = 1 ∨ j = 2 ∨ j = 3 ∨ j = 4 by omega) with rfl | rfl | rfl | rfl | rfl <;> rfl
set_option maxRecDepth 100000 in
theorem tfX2 : ∀ j, j < 4 → defaultValue (tyX2 j) = vp_V [.null, .null, .int 0, .int 0] j := by
  intro j hj
  rcases (show j = 0 ∨ j = 1 ∨ j = 2 ∨ j = 3 by omega) with rfl | rfl | rfl | rfl <;> rfl
set_option maxRecDepth 100000 in
theorem tfX3 : ∀ j, j < 10 → defaultValue (tyX3 j) = vp_V [.null, .null, .null, .int 0, .int 0, .int 0, .int 0, .null, .null, .int 0] j := by
  intro j hj
  rcases (show j = 0 ∨ j = 1 ∨ j = 2 ∨ j = 3 ∨ j = 4 ∨ j = 5 ∨ j = 6 ∨ j = 7 ∨ j = 8 ∨ j = 9 by omega) with rfl | rfl | rfl | rfl | rfl | rfl | rfl | rfl | rfl | rfl <;> rfl
set_option maxRecDepth 100000 in
theorem tfX4 : ∀ j, j < 14 → defaultValue (tyX4 j) = vp_V [.int 0, .int 0, .int 0, .int 0, .int 0, .int 0, .int 0, .int 0, .int 0, .int 0, .int 0, .int 0, .null, .null] j := by
  intro j hj
  rcases (show j = 0 ∨ j = 1 ∨ j = 2 ∨ j = 3 ∨ j = 4 ∨ j = 5 ∨ j = 6 ∨ j = 7 ∨ j = 8 ∨ j = 9 ∨ j = 10 ∨ j = 11 ∨ j = 12 ∨ j = 13 by omega) with rfl | rfl | rfl | rfl | rfl | rfl | rfl | rfl | rfl | rfl | rfl | rfl | rfl | rfl <;> rfl
set_option maxRecDepth 100000 in
theorem tfX5 : ∀ j, j < 4 → defaultValue (tyX5 j) = vp_V [.null, .null, .null, .null] j := by
  intro j hj
  rcases (show j = 0 ∨ j = 1 ∨ j = 2 ∨ j = 3 by omega) with rfl | rfl | rfl | rfl <;> rfl
set_option maxRecDepth 100000 in
theorem tfX6 : ∀ j, j < 4 → defaultValue (tyX6 j) = vp_V [.null, .int 0, .int 0, .int 0] j := by
  intro j hj
  rcases (show j = 0 ∨ j = 1 ∨ j = 2 ∨ j = 3 by omega) with rfl | rfl | rfl | rfl <;> rfl
set_option maxRecDepth 100000 in
theorem tfX7 : ∀ j, j < 5 → defaultValue (tyX7 j) = vp_V [.null, .null, .null, .null, .null] j := by
  intro j hj
  rcases (show j = 0 ∨ j = 1 ∨ j = 2 ∨ j = 3 ∨ j = 4 by omega) with rfl | rfl | rfl | rfl | rfl <;> rfl
set_option maxRecDepth 100000 in
theorem tfX8 : ∀ j, j < 17 → defaultValue (tyX8 j) = vp_V [.int 0, .int 0, .int 0, .null, .null, .null, .null, .null, .null, .null, .null, .null, .null, .null, .null, .null, .null] j := by
  intro j hj
  rcases (show j = 0 ∨ j = 1 ∨ j = 2 ∨ j = 3 ∨ j = 4 ∨ j = 5 ∨ j = 6 ∨ j = 7 ∨ j = 8 ∨ j = 9 ∨ j = 10 ∨ j = 11 ∨ j = 12 ∨ j = 13 ∨ j = 14 ∨ j = 15 ∨ j = 16 by omega) with rfl | rfl | rfl | rfl | rfl | rfl | rfl | rfl | rfl | rfl | rfl | rfl | rfl | rfl | rfl | rfl | rfl <;> rfl
set_option maxRecDepth 100000 in
theorem tfX9 : ∀ j, j < 15 → defaultValue (tyX9 j) = vp_V [.null, .null, .int 0, .int 0, .int 0, .int 0, .int 0, .null, .null, .int 0, .null, .null, .int 0, .int 0, .int 0] j := by
  intro j hj
  rcases (show j = 0 ∨ j = 1 ∨ j = 2 ∨ j = 3 ∨ j = 4 ∨ j = 5 ∨ j = 6 ∨ j = 7 ∨ j = 8 ∨ j = 9 ∨ j = 10 ∨ j = 11 ∨ j = 12 ∨ j = 13 ∨ j = 14 by omega) with rfl | rfl | rfl | rfl | rfl | rfl | rfl | rfl | rfl | rfl | rfl | rfl | rfl | rfl | rfl <;> rfl
set_option maxRecDepth 100000 in
theorem tfX10 : ∀ j, j < 2 → defaultValue (tyX10 j) = vp_V [.null, .null] j := by
  intro j hj
  rcases (show j = 0 ∨ j = 1 by omega) with rfl | rfl <;> rfl
set_option maxRecDepth 100000 in
theorem tfX11 : ∀ j, j < 11 → defaultValue (tyX11 j) = vp_V [.null, .null, .null, .null, .null, .null, .null, .null, .null, .int 0, .int 0] j := by
  intro j hj
  rcases (show j = 0 ∨ j = 1 ∨ j = 2 ∨ j = 3 ∨ j = 4 ∨ j = 5 ∨ j = 6 ∨ j = 7 ∨ j = 8 ∨ j = 9 ∨ j = 10 by omega) with rfl | rfl | rfl | rfl | rfl | rfl | rfl | rfl | rfl | rfl | rfl <;> rfl
set_option maxRecDepth 100000 in
theorem tfX12 : ∀ j, j < 59 → defaultValue (tyX12 j) = vp_V [.int 0, .int 0, .null, .null, .null, .null, .int 0, .null, .null, .int 0, .int 0, .int 0, .int 0, .int 0, .null, .null, .int 0, .null, .null, .int 0, .int 0, .null, .int 0, .int 0, .int 0, .int 0, .null, .null, .null, .int 0, .null, .int 0, .null, .null, .null, .null, .null, .null, .null, .int 0, .int 0, .int 0, .int 0, .int 0, .int 0, .null, .null, .null, .int 0, .int 0, .int 0, .null, .int 0, .int 0, .null, .null, .null, .null, .int 0] j := by
  intro j hj
  rcases (show j = 0 ∨ j = 1 ∨ j = 2 ∨ j = 3 ∨ j = 4 ∨ j = 5 ∨ j = 6 ∨ j = 7 ∨ j = 8 ∨ j = 9 ∨ j = 10 ∨ j = 11 ∨ j = 12 ∨ j = 13 ∨ j = 14 ∨ j = 15 ∨ j = 16 ∨ j = 17 ∨ j = 18 ∨ j = 19 ∨ j = 20 ∨ j = 21 ∨ j = 22 ∨ j = 23 ∨ j = 24 ∨ j = 25 ∨ j = 26 ∨ j = 27 ∨ j = 28 ∨ j = 29 ∨ j = 30 ∨ j = 31 ∨ j = 32 ∨ j = 33 ∨ j = 34 ∨ j = 35 ∨ j = 36 ∨ j = 37 ∨ j = 38 ∨ j = 39 ∨ j = 40 ∨ j = 41 ∨ j = 42 ∨ j = 43 ∨ j = 44 ∨ j = 45 ∨ j = 46 ∨ j = 47 ∨ j = 48 ∨ j = 49 ∨ j = 50 ∨ j = 51 ∨ j = 52 ∨ j = 53 ∨ j = 54 ∨ j = 55 ∨ j = 56 ∨ j = 57 ∨ j = 58 by omega) with rfl | rfl | rfl | rfl | rfl | rfl | rfl | rfl | rfl | rfl | rfl | rfl | rfl | rfl | rfl | rfl | rfl | rfl | rfl | rfl | rfl | rfl | rfl | rfl | rfl | rfl | rfl | rfl | rfl | rfl | rfl | rfl | rfl | rfl | rfl | rfl | rfl | rfl | rfl | rfl | rfl | rfl | rfl | rfl | rfl | rfl | rfl | rfl | rfl | rfl | rfl | rfl | rfl | rfl | rfl | rfl | rfl | rfl | rfl <;> rfl
def fw (a : Nat → Nat) (cy : Nat → ClassId) (g : Nat → Nat → Option Nat) : va_W := [(a 0, .inr (11, [.ref (a 1), .ref (a 60), .ref (a 21), .ref (a 24), .ref (a 28), .ref (a 30), .ref (a 31), .ref (a 32), .ref (a 55), .int 0, .int (-1)])),
  (a 1, .inr (8, [.int 1, .int 0, .int 0, .ref (a 2), .ref (a 3), .ref (a 4), .ref (a 5), .ref (a 6), .ref (a 7), .ref (a 8), .ref (a 9), .ref (a 10), .ref (a 11), .ref (a 12), .ref (a 13), .ref (a 15), .ref (a 18)])),
  (a 2, .inl (cy 0, 32, .inl (fun _ => 0))),
  (a 3, .inl (cy 0, 192, .inl (fun _ => 0))),
  (a 4, .inl (cy 0, 32, .inl (fun _ => 0))),
  (a 5, .inl (cy 0, 32, .inl (fun _ => 0))),
  (a 6, .inl (cy 0, 32, .inl (fun _ => 0))),
  (a 7, .inl (cy 0, 32, .inl (fun _ => (-1)))),
  (a 8, .inl (cy 0, 32, .inl (fun _ => 0))),
  (a 9, .inl (cy 0, 192, .inl (fun _ => (-1)))),
  (a 10, .inl (cy 0, 128, .inl (fun _ => (-1)))),
  (a 11, .inl (cy 0, 32, .inl (fun _ => 0))),
  (a 12, .inl (cy 0, 192, .inl (fun _ => 0))),
  (a 13, .inr (6, [.ref (a 14), .int 0, .int 0, .int 0])),
  (a 14, .inl (cy 0, 40, .inl (fun _ => 0))),
  (a 15, .inr (2, [.ref (a 16), .ref (a 17), .int 0, .int 0])),
  (a 16, .inl (cy 0, 16, .inl (fun _ => 0))),
  (a 17, .inl (cy 0, 16, .inl (fun _ => 0))),
  (a 18, .inr (2, [.ref (a 19), .ref (a 20), .int 0, .int 0])),
  (a 19, .inl (cy 0, 32, .inl (fun _ => 0))),
  (a 20, .inl (cy 0, 32, .inl (fun _ => 0))),
  (a 21, .inr (10, [.ref (a 22), .ref (a 1)])),
  (a 22, .inl (cy 1, 32, .inr (.inr (.inr (.inr (va_up (g 0) 0 (some (a 23)))))))),
  (a 23, .inr (4, [.int 1, .int 0, .int (-1), .int 0, .int 0, .int 0, .int 0, .int 0, .int 0, .int 0, .int 0, .int 0, .ref (a 61), .ref (a 62)])),
  (a 24, .inr (9, [.ref (a 21), .ref (a 25), .int 0, .int 0, .int 0, .int (-1), .int 0, .ref (a 26), .ref (a 27), .int 0, .ref (a 63), .ref (a 64), .int 0, .int 0, .int 0])),
  (a 25, .inl (cy 0, 400, .inl (fun _ => 0))),
  (a 26, .inl (cy 0, 33, .inl (fun _ => 0))),
  (a 27, .inl (cy 0, 33, .inl (fun _ => 0))),
  (a 28, .inr (3, [.ref (a 21), .ref (a 1), .ref (a 65), .int 0, .int 0, .int 0, .int 0, .ref (a 29), .ref (a 66), .int 0])),
  (a 29, .inl (cy 0, 15, .inl (fun _ => 0))),
  (a 30, .inr (5, [.ref (a 21), .ref (a 1), .ref (a 67), .ref (a 68)])),
  (a 31, .inr (7, [.ref (a 21), .ref (a 1), .ref (a 28), .ref (a 30), .ref (a 69)])),
  (a 32, .inr (1, [.ref (a 1), .ref (a 33), .ref (a 34), .int 0, .int 0])),
  (a 33, .inl (cy 2, 8, .inr (.inr (.inr (.inr (va_up (g 1) 0 (some (a 35)))))))),
  (a 34, .inl (cy 0, 8, .inl (fun _ => 0))),
  (a 35, .inr (8, [.int 1, .int 0, .int 0, .ref (a 36), .ref (a 37), .ref (a 38), .ref (a 39), .ref (a 40), .ref (a 41), .ref (a 42), .ref (a 43), .ref (a 44), .ref (a 45), .ref (a 46), .ref (a 47), .ref (a 49), .ref (a 52)])),
  (a 36, .inl (cy 0, 32, .inl (fun _ => 0))),
  (a 37, .inl (cy 0, 192, .inl (fun _ => 0))),
  (a 38, .inl (cy 0, 32, .inl (fun _ => 0))),
  (a 39, .inl (cy 0, 32, .inl (fun _ => 0))),
  (a 40, .inl (cy 0, 32, .inl (fun _ => 0))),
  (a 41, .inl (cy 0, 32, .inl (fun _ => (-1)))),
  (a 42, .inl (cy 0, 32, .inl (fun _ => 0))),
  (a 43, .inl (cy 0, 192, .inl (fun _ => (-1)))),
  (a 44, .inl (cy 0, 128, .inl (fun _ => (-1)))),
  (a 45, .inl (cy 0, 32, .inl (fun _ => 0))),
  (a 46, .inl (cy 0, 192, .inl (fun _ => 0))),
  (a 47, .inr (6, [.ref (a 48), .int 0, .int 0, .int 0])),
  (a 48, .inl (cy 0, 40, .inl (fun _ => 0))),
  (a 49, .inr (2, [.ref (a 50), .ref (a 51), .int 0, .int 0])),
  (a 50, .inl (cy 0, 16, .inl (fun _ => 0))),
  (a 51, .inl (cy 0, 16, .inl (fun _ => 0))),
  (a 52, .inr (2, [.ref (a 53), .ref (a 54), .int 0, .int 0])),
  (a 53, .inl (cy 0, 32, .inl (fun _ => 0))),
  (a 54, .inl (cy 0, 32, .inl (fun _ => 0))),
  (a 55, .inl (cy 0, 7, .inl (fun _ => 0)))]
