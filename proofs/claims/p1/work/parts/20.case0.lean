set_option maxHeartbeats 40000000 in
set_option maxRecDepth 100000 in
theorem lawc_0 {p : Program} {e : Env} {s : State} {m : MethodId} {below : List Frame} {meth : Method} {c : Code} (l : Launch) {sc : Nat} {xs : Nat → Int32} {A : Nat → Prop} {dC : Nat → ClassId} {dI : Nat → Nat → Nat} {cy : Nat → ClassId} {a b : Nat → Nat} {g : Nat → Nat → Option Nat} (hAe : A = fun q => s.heap.size ≤ q) (C0 : lw_At p s m meth c sc 6 xs) (hC : cK dC dI cy s) {H : Heap} {locs : List Loc} {ls : Array Slot} (hP : va_P (dC, dI) vwCl (fw a cy g ++ mw b cy) H) (hD : va_D A (fw a cy g ++ mw b cy)) (hS : va_S A s.heap H locs) (hl : lv_has ls 4 [(3, .int 0), (2, .ref (b 0)), (1, .ref (a 0)), (0, .ref sc)]) : W p l e room_1 s m #[Value.ref sc] below meth c H locs 1000 100000 (lw_Z below #[Value.ref sc] s) (F0 m 164 ls []) := by
  obtain ⟨hx, hb, hr, hml, hown, hts0, hX, hbl, hlocks, -⟩ := C0
  have hown : s.vm.findClass RL = some m.cls := hown
  have hts : ∀ w ∈ v_L_law, w.before #[Value.ref sc] s = true := fun w h => hts0 w (v_L_in w h)
  have hK := hC.1
  have hA : ∀ q : Nat, s.heap.size ≤ q → A q := fun q h => by rw [hAe]; exact h
  have hbA : ¬ A sc := by
    rw [hAe]
    exact Nat.not_le.mpr hbl
  obtain ⟨x0, ex0⟩ : ∃ z : Int32, xs (Int32.toNatClampNeg 0) = z := ⟨_, rfl⟩
  obtain ⟨x1, ex1⟩ : ∃ z : Int32, xs (Int32.toNatClampNeg 1) = z := ⟨_, rfl⟩
  obtain ⟨x2, ex2⟩ : ∃ z : Int32, xs (Int32.toNatClampNeg 2) = z := ⟨_, rfl⟩
  obtain ⟨x3, ex3⟩ : ∃ z : Int32, xs (Int32.toNatClampNeg 3) = z := ⟨_, rfl⟩
  obtain ⟨x4, ex4⟩ : ∃ z : Int32, xs (Int32.toNatClampNeg 4) = z := ⟨_, rfl⟩
  obtain ⟨x5, ex5⟩ : ∃ z : Int32, xs (Int32.toNatClampNeg 5) = z := ⟨_, rfl⟩
  refine lv_aload_n hx hb dL_law_164 rfl (lv_at hl 2 rfl) ?_
  refine lv_aload_n hx hb dL_law_165 rfl (lv_at hl 3 rfl) ?_
  refine lv_iload_n hx hb dL_law_166 rfl (lv_at hl 0 rfl) ?_
  refine lv_iconst (v := 1) hx hb dL_law_167 (by decide) ?_
  refine lv_iadd hx hb dL_law_168 ?_
  refine tk_i 1 (by decide) ?_
  refine va_sld hx hb hX hbl hbA hS (show ¬ ((1 : Int32) < 0 ∨ 6 ≤ Int32.toNatClampNeg 1) by decide) dL_law_169 ?_
  refine tk_i x1 ex1 ?_
  refine lv_aload_n hx hb dL_law_170 rfl (lv_at hl 3 rfl) ?_
  refine lv_iload_n hx hb dL_law_171 rfl (lv_at hl 0 rfl) ?_
  refine lv_iconst (v := 2) hx hb dL_law_172 (by decide) ?_
  refine lv_iadd hx hb dL_law_173 ?_
  refine tk_i 2 (by decide) ?_
  refine va_sld hx hb hX hbl hbA hS (show ¬ ((2 : Int32) < 0 ∨ 6 ≤ Int32.toNatClampNeg 2) by decide) dL_law_174 ?_
  refine tk_i x2 ex2 ?_
  refine lv_aload_n hx hb dL_law_175 rfl (lv_at hl 3 rfl) ?_
  refine lv_iload_n hx hb dL_law_176 rfl (lv_at hl 0 rfl) ?_
  refine lv_iconst (v := 3) hx hb dL_law_177 (by decide) ?_
  refine lv_iadd hx hb dL_law_178 ?_
  refine tk_i 3 (by decide) ?_
  refine va_sld hx hb hX hbl hbA hS (show ¬ ((3 : Int32) < 0 ∨ 6 ≤ Int32.toNatClampNeg 3) by decide) dL_law_179 ?_
  refine tk_i x3 ex3 ?_
  refine lv_aload_n hx hb dL_law_180 rfl (lv_at hl 3 rfl) ?_
  refine lv_iload_n hx hb dL_law_181 rfl (lv_at hl 0 rfl) ?_
  refine lv_iconst (v := 4) hx hb dL_law_182 (by decide) ?_
  refine lv_iadd hx hb dL_law_183 ?_
  refine tk_i 4 (by decide) ?_
  refine va_sld hx hb hX hbl hbA hS (show ¬ ((4 : Int32) < 0 ∨ 6 ≤ Int32.toNatClampNeg 4) by decide) dL_law_184 ?_
  refine tk_i x4 ex4 ?_
  refine lv_aload_n hx hb dL_law_185 rfl (lv_at hl 3 rfl) ?_
  refine lv_iload_n hx hb dL_law_186 rfl (lv_at hl 0 rfl) ?_
  refine lv_iconst (v := 5) hx hb dL_law_187 (by decide) ?_
  refine lv_iadd hx hb dL_law_188 ?_
  refine tk_i 5 (by decide) ?_
  refine va_sld hx hb hX hbl hbA hS (show ¬ ((5 : Int32) < 0 ∨ 6 ≤ Int32.toNatClampNeg 5) by decide) dL_law_189 ?_
  refine tk_i x5 ex5 ?_
  have hPc : va_P (dC, dI) vwCl (fw a cy g) _ := hP.sub [0, 1, 2, 3, 4, 5, 6, 7, 8, 9, 10, 11, 12, 13, 14, 15, 16, 17, 18, 19, 20, 21, 22, 23, 24, 25, 26, 27, 28, 29, 30, 31, 32, 33, 34, 35, 36, 37, 38, 39, 40, 41, 42, 43, 44, 45, 46, 47, 48, 49, 50, 51, 52, 53, 54, 55] rfl
  have hDc := hD.sub (ws' := fw a cy g) [0, 1, 2, 3, 4, 5, 6, 7, 8, 9, 10, 11, 12, 13, 14, 15, 16, 17, 18, 19, 20, 21, 22, 23, 24, 25, 26, 27, 28, 29, 30, 31, 32, 33, 34, 35, 36, 37, 38, 39, 40, 41, 42, 43, 44, 45, 46, 47, 48, 49, 50, 51, 52, 53, 54, 55] (by decide) rfl
  have hFc := va_free (wc := fw a cy g) hD hS hA [0, 1, 2, 3, 4, 5, 6, 7, 8, 9, 10, 11, 12, 13, 14, 15, 16, 17, 18, 19, 20, 21, 22, 23, 24, 25, 26, 27, 28, 29, 30, 31, 32, 33, 34, 35, 36, 37, 38, 39, 40, 41, 42, 43, 44, 45, 46, 47, 48, 49, 50, 51, 52, 53, 54, 55] rfl
  refine va_calli (va_runV (As := [.int x1, .int x2, .int x3, .int x4, .int x5]) (rest := []) ⟨hx, hb, hml, hown, hts⟩ (c_X11_feed l dC dI cy a g _ x1 x2 x3 x4 x5) (cwV 5 hts g_L_law_X11_feed_13 rfl rfl rfl (by decide +kernel) ⟨Nat.le_of_ble_eq_true rfl, Nat.le_of_ble_eq_true rfl⟩) (pv_ps hC hPc hDc (ci := 11) (q0 := 0) rfl rfl) rfl rfl hl.1 rfl (lv_room (Nat.le_of_ble_eq_true rfl)) dL_law_190 ⟨Nat.le_of_ble_eq_true rfl, Nat.le_of_ble_eq_true rfl⟩) hS (fun q _ h => hFc q h) hFc (fun r_ u t_ H1 locs ht hvm hw hB hz1 hk1 hS => ?_)
  obtain ⟨hP, hD⟩ := va_join (wr := mw b cy) (w1 := []) hP hD [0, 1, 2, 3, 4, 5, 6, 7, 8, 9, 10, 11, 12, 13, 14, 15, 16, 17, 18, 19, 20, 21, 22, 23, 24, 25, 26, 27, 28, 29, 30, 31, 32, 33, 34, 35, 36, 37, 38, 39, 40, 41, 42, 43, 44, 45, 46, 47, 48, 49, 50, 51, 52, 53, 54, 55] [56, 57, 58, 59, 60, 61, 62, 63] rfl rfl (by decide) (by decide) hk1 hFc va_P0 va_D0
  generalize H1 = H at hP hS ⊢
  have hP : va_P (dC, dI) vwCl (mw b cy) H := hP
  have hD : va_D A (mw b cy) := hD
  subst hw
  refine lv_aload_n hx hb dL_law_193 rfl (lv_at hl 1 rfl) ?_
  refine lv_aload_n hx hb dL_law_194 rfl (lv_at hl 3 rfl) ?_
  refine lv_iload_n hx hb dL_law_195 rfl (lv_at hl 0 rfl) ?_
  refine lv_iconst (v := 1) hx hb dL_law_196 (by decide) ?_
  refine lv_iadd hx hb dL_law_197 ?_
  refine tk_i 1 (by decide) ?_
  refine va_sld hx hb hX hbl hbA hS (show ¬ ((1 : Int32) < 0 ∨ 6 ≤ Int32.toNatClampNeg 1) by decide) dL_law_198 ?_
  refine tk_i x1 ex1 ?_
  refine lv_aload_n hx hb dL_law_199 rfl (lv_at hl 3 rfl) ?_
  refine lv_iload_n hx hb dL_law_200 rfl (lv_at hl 0 rfl) ?_
  refine lv_iconst (v := 2) hx hb dL_law_201 (by decide) ?_
  refine lv_iadd hx hb dL_law_202 ?_
  refine tk_i 2 (by decide) ?_
  refine va_sld hx hb hX hbl hbA hS (show ¬ ((2 : Int32) < 0 ∨ 6 ≤ Int32.toNatClampNeg 2) by decide) dL_law_203 ?_
  refine tk_i x2 ex2 ?_
  refine lv_aload_n hx hb dL_law_204 rfl (lv_at hl 3 rfl) ?_
  refine lv_iload_n hx hb dL_law_205 rfl (lv_at hl 0 rfl) ?_
  refine lv_iconst (v := 3) hx hb dL_law_206 (by decide) ?_
  refine lv_iadd hx hb dL_law_207 ?_
  refine tk_i 3 (by decide) ?_
  refine va_sld hx hb hX hbl hbA hS (show ¬ ((3 : Int32) < 0 ∨ 6 ≤ Int32.toNatClampNeg 3) by decide) dL_law_208 ?_
  refine tk_i x3 ex3 ?_
  refine lv_aload_n hx hb dL_law_209 rfl (lv_at hl 3 rfl) ?_
  refine lv_iload_n hx hb dL_law_210 rfl (lv_at hl 0 rfl) ?_
  refine lv_iconst (v := 4) hx hb dL_law_211 (by decide) ?_
  refine lv_iadd hx hb dL_law_212 ?_
  refine tk_i 4 (by decide) ?_
  refine va_sld hx hb hX hbl hbA hS (show ¬ ((4 : Int32) < 0 ∨ 6 ≤ Int32.toNatClampNeg 4) by decide) dL_law_213 ?_
  refine tk_i x4 ex4 ?_
  refine lv_aload_n hx hb dL_law_214 rfl (lv_at hl 3 rfl) ?_
  refine lv_iload_n hx hb dL_law_215 rfl (lv_at hl 0 rfl) ?_
  refine lv_iconst (v := 5) hx hb dL_law_216 (by decide) ?_
  refine lv_iadd hx hb dL_law_217 ?_
  refine tk_i 5 (by decide) ?_
  refine va_sld hx hb hX hbl hbA hS (show ¬ ((5 : Int32) < 0 ∨ 6 ≤ Int32.toNatClampNeg 5) by decide) dL_law_218 ?_
  refine tk_i x5 ex5 ?_
  have hPc : va_P (dC, dI) vwCl (mw b cy) _ := hP.sub [0, 1, 2, 3, 4, 5, 6, 7] rfl
  have hDc := hD.sub (ws' := mw b cy) [0, 1, 2, 3, 4, 5, 6, 7] (by decide) rfl
  have hFc := va_free (wc := mw b cy) hD hS hA [0, 1, 2, 3, 4, 5, 6, 7] rfl
  refine va_calli (va_runV (As := [.int x1, .int x2, .int x3, .int x4, .int x5]) (rest := [.int 20]) ⟨hx, hb, hml, hown, hts⟩ (c_X12_feed l dC dI cy b _ x1 x2 x3 x4 x5) (cwV 5 hts g_L_law_X12_feed_17 rfl rfl rfl (by decide +kernel) ⟨Nat.le_of_ble_eq_true rfl, Nat.le_of_ble_eq_true rfl⟩) (pv_ps hC hPc hDc (ci := 12) (q0 := 0) rfl rfl) rfl rfl hl.1 rfl (lv_room (Nat.le_of_ble_eq_true rfl)) dL_law_219 ⟨Nat.le_of_ble_eq_true rfl, Nat.le_of_ble_eq_true rfl⟩) hS (fun q _ h => hFc q h) hFc (fun r_ u t_ H1 locs ht hvm hw hB hz1 hk1 hS => ?_)
  obtain ⟨hP, hD⟩ := va_join (wr := []) (w1 := []) hP hD [0, 1, 2, 3, 4, 5, 6, 7] [] rfl rfl (by decide) (by decide) hk1 hFc va_P0 va_D0
  generalize H1 = H at hP hS ⊢
  have hP : va_P (dC, dI) vwCl ([]) H := hP
  have hD : va_D A ([]) := hD
  subst hw
  refine lv_icmp_eq (tgt := 983) hx hb dL_law_222 (by decide) (fun _ => ?_) (fun c9_ => absurd (by decide) c9_)
  refine lv_iinc (v := 6) (lv' := [(3, .int 6), (2, .ref (b 0)), (1, .ref (a 0)), (0, .ref sc)]) hx hb dL_law_983 hl (k := 0) rfl (by decide) (by decide) rfl (fun ls hl => ?_)
  refine lv_goto (tgt := 18) hx hb dL_law_986 (by decide) ?_
  refine lv_iload_n hx hb dL_law_18 rfl (lv_at hl 0 rfl) ?_
  refine lv_aload_n hx hb dL_law_19 rfl (lv_at hl 3 rfl) ?_
  refine va_slen hx hb hX hbl hbA hS dL_law_20 ?_
  refine tk_i 6 (by decide) ?_
  refine lv_bipush (v := 6) hx hb dL_law_21 (by decide) ?_
  refine lv_isub hx hb dL_law_23 ?_
  refine tk_i 0 (by decide) ?_
  refine lv_icmp_gt (tgt := 989) hx hb dL_law_24 (by decide) (fun _ => ?_) (fun c9_ => absurd (by decide) c9_)
  refine lv_iconst (v := 1) hx hb dL_law_989 (by decide) ?_
  refine va_forget (fun q hq => by have h := hS.2.2 q hq; rw [hAe] at h; exact h) ?_
  refine W.widen (k := 600000) (n := 7302249) (Nat.le_of_ble_eq_true rfl) (Nat.le_of_ble_eq_true rfl) ?_
  exact lw_ret hx hb hr hlocks dL_law_990
set_option maxHeartbeats 40000000 in
set_option maxRecDepth 100000 in
theorem lawc_1 {p : Program} {e : Env} {s : State} {m : MethodId} {below : List Frame} {meth : Method} {c : Code} (l : Launch) {sc : Nat} {xs : Nat → Int32} {A : Nat → Prop} {dC : Nat → ClassId} {dI : Nat → Nat → Nat} {cy : Nat → ClassId} {a b : Nat → Nat} {g : Nat → Nat → Option Nat} (hAe : A = fun q => s.heap.size ≤ q) (C0 : lw_At p s m meth c sc 6 xs) (hC : cK dC dI cy s) {H : Heap} {locs : List Loc} {ls : Array Slot} (hP : va_P (dC, dI) vwCl (fw a cy g ++ mw b cy) H) (hD : va_D A (fw a cy g ++ mw b cy)) (hS : va_S A s.heap H locs) (hl : lv_has ls 4 [(3, .int 0), (2, .ref (b 0)), (1, .ref (a 0)), (0, .ref sc)]) : W p l e room_1 s m #[Value.ref sc] below meth c H locs 1000 100000 (lw_Z below #[Value.ref sc] s) (F0 m 227 ls []) := by
  obtain ⟨hx, hb, hr, hml, hown, hts0, hX, hbl, hlocks, -⟩ := C0
  have hown : s.vm.findClass RL = some m.cls := hown
  have hts : ∀ w ∈ v_L_law, w.before #[Value.ref sc] s = true := fun w h => hts0 w (v_L_in w h)
  have hK := hC.1
  have hA : ∀ q : Nat, s.heap.size ≤ q → A q := fun q h => by rw [hAe]; exact h
  have hbA : ¬ A sc := by
    rw [hAe]
    exact Nat.not_le.mpr hbl
  obtain ⟨x0, ex0⟩ : ∃ z : Int32, xs (Int32.toNatClampNeg 0) = z := ⟨_, rfl⟩
  obtain ⟨x1, ex1⟩ : ∃ z : Int32, xs (Int32.toNatClampNeg 1) = z := ⟨_, rfl⟩
  obtain ⟨x2, ex2⟩ : ∃ z : Int32, xs (Int32.toNatClampNeg 2) = z := ⟨_, rfl⟩
  obtain ⟨x3, ex3⟩ : ∃ z : Int32, xs (Int32.toNatClampNeg 3) = z := ⟨_, rfl⟩
  obtain ⟨x4, ex4⟩ : ∃ z : Int32, xs (Int32.toNatClampNeg 4) = z := ⟨_, rfl⟩
  obtain ⟨x5, ex5⟩ : ∃ z : Int32, xs (Int32.toNatClampNeg 5) = z := ⟨_, rfl⟩
  refine lv_aload_n hx hb dL_law_227 rfl (lv_at hl 2 rfl) ?_
  refine lv_aload_n hx hb dL_law_228 rfl (lv_at hl 3 rfl) ?_
  refine lv_iload_n hx hb dL_law_229 rfl (lv_at hl 0 rfl) ?_
  refine lv_iconst (v := 1) hx hb dL_law_230 (by decide) ?_
  refine lv_iadd hx hb dL_law_231 ?_
  refine tk_i 1 (by decide) ?_
  refine va_sld hx hb hX hbl hbA hS (show ¬ ((1 : Int32) < 0 ∨ 6 ≤ Int32.toNatClampNeg 1) by decide) dL_law_232 ?_
  refine tk_i x1 ex1 ?_
  have hPc : va_P (dC, dI) vwCl (fw a cy g) _ := hP.sub [0, 1, 2, 3, 4, 5, 6, 7, 8, 9, 10, 11, 12, 13, 14, 15, 16, 17, 18, 19, 20, 21, 22, 23, 24, 25, 26, 27, 28, 29, 30, 31, 32, 33, 34, 35, 36, 37, 38, 39, 40, 41, 42, 43, 44, 45, 46, 47, 48, 49, 50, 51, 52, 53, 54, 55] rfl
  have hDc := hD.sub (ws' := fw a cy g) [0, 1, 2, 3, 4, 5, 6, 7, 8, 9, 10, 11, 12, 13, 14, 15, 16, 17, 18, 19, 20, 21, 22, 23, 24, 25, 26, 27, 28, 29, 30, 31, 32, 33, 34, 35, 36, 37, 38, 39, 40, 41, 42, 43, 44, 45, 46, 47, 48, 49, 50, 51, 52, 53, 54, 55] (by decide) rfl
  have hFc := va_free (wc := fw a cy g) hD hS hA [0, 1, 2, 3, 4, 5, 6, 7, 8, 9, 10, 11, 12, 13, 14, 15, 16, 17, 18, 19, 20, 21, 22, 23, 24, 25, 26, 27, 28, 29, 30, 31, 32, 33, 34, 35, 36, 37, 38, 39, 40, 41, 42, 43, 44, 45, 46, 47, 48, 49, 50, 51, 52, 53, 54, 55] rfl
  refine va_calli (va_runV (As := [.int x1]) (rest := []) ⟨hx, hb, hml, hown, hts⟩ (c_X11_end l dC dI cy a g _ x1) (cwV 1 hts g_L_law_X11_end_18 rfl rfl rfl (by decide +kernel) ⟨Nat.le_of_ble_eq_true rfl, Nat.le_of_ble_eq_true rfl⟩) (pv_ps hC hPc hDc (ci := 11) (q0 := 0) rfl rfl) rfl rfl hl.1 rfl (lv_room (Nat.le_of_ble_eq_true rfl)) dL_law_233 ⟨Nat.le_of_ble_eq_true rfl, Nat.le_of_ble_eq_true rfl⟩) hS (fun q _ h => hFc q h) hFc (fun r_ u t_ H1 locs ht hvm hw hB hz1 hk1 hS => ?_)
  obtain ⟨hP, hD⟩ := va_join (wr := mw b cy) (w1 := []) hP hD [0, 1, 2, 3, 4, 5, 6, 7, 8, 9, 10, 11, 12, 13, 14, 15, 16, 17, 18, 19, 20, 21, 22, 23, 24, 25, 26, 27, 28, 29, 30, 31, 32, 33, 34, 35, 36, 37, 38, 39, 40, 41, 42, 43, 44, 45, 46, 47, 48, 49, 50, 51, 52, 53, 54, 55] [56, 57, 58, 59, 60, 61, 62, 63] rfl rfl (by decide) (by decide) hk1 hFc va_P0 va_D0
  generalize H1 = H at hP hS ⊢
  have hP : va_P (dC, dI) vwCl (mw b cy) H := hP
  have hD : va_D A (mw b cy) := hD
  rcases hw with ⟨c35_, rfl⟩ | ⟨c36_, rfl⟩ | ⟨c37_, c38_, rfl⟩
  · skip
    refine lv_aload_n hx hb dL_law_236 rfl (lv_at hl 1 rfl) ?_
    refine lv_aload_n hx hb dL_law_237 rfl (lv_at hl 3 rfl) ?_
    refine lv_iload_n hx hb dL_law_238 rfl (lv_at hl 0 rfl) ?_
    refine lv_iconst (v := 1) hx hb dL_law_239 (by decide) ?_
    refine lv_iadd hx hb dL_law_240 ?_
    refine tk_i 1 (by decide) ?_
    refine va_sld hx hb hX hbl hbA hS (show ¬ ((1 : Int32) < 0 ∨ 6 ≤ Int32.toNatClampNeg 1) by decide) dL_law_241 ?_
    refine tk_i x1 ex1 ?_
    have hPc : va_P (dC, dI) vwCl (mw b cy) _ := hP.sub [0, 1, 2, 3, 4, 5, 6, 7] rfl
    have hDc := hD.sub (ws' := mw b cy) [0, 1, 2, 3, 4, 5, 6, 7] (by decide) rfl
    have hFc := va_free (wc := mw b cy) hD hS hA [0, 1, 2, 3, 4, 5, 6, 7] rfl
    refine va_calli (va_runV (As := [.int x1]) (rest := [.int (-1)]) ⟨hx, hb, hml, hown, hts⟩ (c_X12_end l dC dI cy b _ x1) (cwV 1 hts g_L_law_X12_end_22 rfl rfl rfl (by decide +kernel) ⟨Nat.le_of_ble_eq_true rfl, Nat.le_of_ble_eq_true rfl⟩) (pv_ps hC hPc hDc (ci := 12) (q0 := 0) rfl rfl) rfl rfl hl.1 rfl (lv_room (Nat.le_of_ble_eq_true rfl)) dL_law_242 ⟨Nat.le_of_ble_eq_true rfl, Nat.le_of_ble_eq_true rfl⟩) hS (fun q _ h => hFc q h) hFc (fun r_ u t_ H1 locs ht hvm hw hB hz1 hk1 hS => ?_)
    obtain ⟨hP, hD⟩ := va_join (wr := []) (w1 := []) hP hD [0, 1, 2, 3, 4, 5, 6, 7] [] rfl rfl (by decide) (by decide) hk1 hFc va_P0 va_D0
    generalize H1 = H at hP hS ⊢
    have hP : va_P (dC, dI) vwCl ([]) H := hP
    have hD : va_D A ([]) := hD
    rcases hw with ⟨c39_, rfl⟩ | ⟨c40_, rfl⟩ | ⟨c41_, c42_, rfl⟩
    · skip
      refine lv_icmp_eq (tgt := 983) hx hb dL_law_245 (by decide) (fun _ => ?_) (fun c9_ => absurd (by decide) c9_)
      refine lv_iinc (v := 6) (lv' := [(3, .int 6), (2, .ref (b 0)), (1, .ref (a 0)), (0, .ref sc)]) hx hb dL_law_983 hl (k := 0) rfl (by decide) (by decide) rfl (fun ls hl => ?_)
      refine lv_goto (tgt := 18) hx hb dL_law_986 (by decide) ?_
      refine lv_iload_n hx hb dL_law_18 rfl (lv_at hl 0 rfl) ?_
      refine lv_aload_n hx hb dL_law_19 rfl (lv_at hl 3 rfl) ?_
      refine va_slen hx hb hX hbl hbA hS dL_law_20 ?_
      refine tk_i 6 (by decide) ?_
      refine lv_bipush (v := 6) hx hb dL_law_21 (by decide) ?_
      refine lv_isub hx hb dL_law_23 ?_
      refine tk_i 0 (by decide) ?_
      refine lv_icmp_gt (tgt := 989) hx hb dL_law_24 (by decide) (fun _ => ?_) (fun c9_ => absurd (by decide) c9_)
      refine lv_iconst (v := 1) hx hb dL_law_989 (by decide) ?_
      refine va_forget (fun q hq => by have h := hS.2.2 q hq; rw [hAe] at h; exact h) ?_
      refine W.widen (k := 600000) (n := 7302249) (Nat.le_of_ble_eq_true rfl) (Nat.le_of_ble_eq_true rfl) ?_
      exact lw_ret hx hb hr hlocks dL_law_990
    · skip
      exfalso
      have z0_ := tz_lt_r c35_ (show (0 : Int32).toInt = 0 by decide)
      have z1_ := tz_eq_r c40_ (show (0 : Int32).toInt = 0 by decide)
      omega
    · skip
      exfalso
      have z0_ := tz_lt_r c35_ (show (0 : Int32).toInt = 0 by decide)
      have z1_ := tz_nlt_r c41_ (show (0 : Int32).toInt = 0 by decide)
      omega
  · skip
    subst c36_
    refine lv_aload_n hx hb dL_law_236 rfl (lv_at hl 1 rfl) ?_
    refine lv_aload_n hx hb dL_law_237 rfl (lv_at hl 3 rfl) ?_
    refine lv_iload_n hx hb dL_law_238 rfl (lv_at hl 0 rfl) ?_
    refine lv_iconst (v := 1) hx hb dL_law_239 (by decide) ?_
    refine lv_iadd hx hb dL_law_240 ?_
    refine tk_i 1 (by decide) ?_
    refine va_sld hx hb hX hbl hbA hS (show ¬ ((1 : Int32) < 0 ∨ 6 ≤ Int32.toNatClampNeg 1) by decide) dL_law_241 ?_
    refine tk_i 0 ex1 ?_
    have hPc : va_P (dC, dI) vwCl (mw b cy) _ := hP.sub [0, 1, 2, 3, 4, 5, 6, 7] rfl
    have hDc := hD.sub (ws' := mw b cy) [0, 1, 2, 3, 4, 5, 6, 7] (by decide) rfl
    have hFc := va_free (wc := mw b cy) hD hS hA [0, 1, 2, 3, 4, 5, 6, 7] rfl
    refine va_calli (va_runV (As := [.int 0]) (rest := [.int 0]) ⟨hx, hb, hml, hown, hts⟩ (c_X12_end l dC dI cy b _ 0) (cwV 1 hts g_L_law_X12_end_22 rfl rfl rfl (by decide +kernel) ⟨Nat.le_of_ble_eq_true rfl, Nat.le_of_ble_eq_true rfl⟩) (pv_ps hC hPc hDc (ci := 12) (q0 := 0) rfl rfl) rfl rfl hl.1 rfl (lv_room (Nat.le_of_ble_eq_true rfl)) dL_law_242 ⟨Nat.le_of_ble_eq_true rfl, Nat.le_of_ble_eq_true rfl⟩) hS (fun q _ h => hFc q h) hFc (fun r_ u t_ H1 locs ht hvm hw hB hz1 hk1 hS => ?_)
    obtain ⟨hP, hD⟩ := va_join (wr := []) (w1 := []) hP hD [0, 1, 2, 3, 4, 5, 6, 7] [] rfl rfl (by decide) (by decide) hk1 hFc va_P0 va_D0
    generalize H1 = H at hP hS ⊢
    have hP : va_P (dC, dI) vwCl ([]) H := hP
    have hD : va_D A ([]) := hD
    rcases hw with ⟨c43_, rfl⟩ | ⟨-, rfl⟩ | ⟨-, c46_, rfl⟩
    · skip
      exact absurd c43_ (by decide)
    · skip
      refine lv_icmp_eq (tgt := 983) hx hb dL_law_245 (by decide) (fun _ => ?_) (fun c9_ => absurd (by decide) c9_)
      refine lv_iinc (v := 6) (lv' := [(3, .int 6), (2, .ref (b 0)), (1, .ref (a 0)), (0, .ref sc)]) hx hb dL_law_983 hl (k := 0) rfl (by decide) (by decide) rfl (fun ls hl => ?_)
      refine lv_goto (tgt := 18) hx hb dL_law_986 (by decide) ?_
      refine lv_iload_n hx hb dL_law_18 rfl (lv_at hl 0 rfl) ?_
      refine lv_aload_n hx hb dL_law_19 rfl (lv_at hl 3 rfl) ?_
      refine va_slen hx hb hX hbl hbA hS dL_law_20 ?_
      refine tk_i 6 (by decide) ?_
      refine lv_bipush (v := 6) hx hb dL_law_21 (by decide) ?_
      refine lv_isub hx hb dL_law_23 ?_
      refine tk_i 0 (by decide) ?_
      refine lv_icmp_gt (tgt := 989) hx hb dL_law_24 (by decide) (fun _ => ?_) (fun c9_ => absurd (by decide) c9_)
      refine lv_iconst (v := 1) hx hb dL_law_989 (by decide) ?_
      refine va_forget (fun q hq => by have h := hS.2.2 q hq; rw [hAe] at h; exact h) ?_
      refine W.widen (k := 600000) (n := 7302249) (Nat.le_of_ble_eq_true rfl) (Nat.le_of_ble_eq_true rfl) ?_
      exact lw_ret hx hb hr hlocks dL_law_990
    · skip
      exact absurd c46_ (by decide)
  · skip
    refine lv_aload_n hx hb dL_law_236 rfl (lv_at hl 1 rfl) ?_
    refine lv_aload_n hx hb dL_law_237 rfl (lv_at hl 3 rfl) ?_
    refine lv_iload_n hx hb dL_law_238 rfl (lv_at hl 0 rfl) ?_
    refine lv_iconst (v := 1) hx hb dL_law_239 (by decide) ?_
    refine lv_iadd hx hb dL_law_240 ?_
    refine tk_i 1 (by decide) ?_
    refine va_sld hx hb hX hbl hbA hS (show ¬ ((1 : Int32) < 0 ∨ 6 ≤ Int32.toNatClampNeg 1) by decide) dL_law_241 ?_
    refine tk_i x1 ex1 ?_
    have hPc : va_P (dC, dI) vwCl (mw b cy) _ := hP.sub [0, 1, 2, 3, 4, 5, 6, 7] rfl
    have hDc := hD.sub (ws' := mw b cy) [0, 1, 2, 3, 4, 5, 6, 7] (by decide) rfl
    have hFc := va_free (wc := mw b cy) hD hS hA [0, 1, 2, 3, 4, 5, 6, 7] rfl
    refine va_calli (va_runV (As := [.int x1]) (rest := [.int (-1)]) ⟨hx, hb, hml, hown, hts⟩ (c_X12_end l dC dI cy b _ x1) (cwV 1 hts g_L_law_X12_end_22 rfl rfl rfl (by decide +kernel) ⟨Nat.le_of_ble_eq_true rfl, Nat.le_of_ble_eq_true rfl⟩) (pv_ps hC hPc hDc (ci := 12) (q0 := 0) rfl rfl) rfl rfl hl.1 rfl (lv_room (Nat.le_of_ble_eq_true rfl)) dL_law_242 ⟨Nat.le_of_ble_eq_true rfl, Nat.le_of_ble_eq_true rfl⟩) hS (fun q _ h => hFc q h) hFc (fun r_ u t_ H1 locs ht hvm hw hB hz1 hk1 hS => ?_)
    obtain ⟨hP, hD⟩ := va_join (wr := []) (w1 := []) hP hD [0, 1, 2, 3, 4, 5, 6, 7] [] rfl rfl (by decide) (by decide) hk1 hFc va_P0 va_D0
    generalize H1 = H at hP hS ⊢
    have hP : va_P (dC, dI) vwCl ([]) H := hP
    have hD : va_D A ([]) := hD
    rcases hw with ⟨c47_, rfl⟩ | ⟨c48_, rfl⟩ | ⟨c49_, c50_, rfl⟩
    · skip
      exfalso
      have z0_ := tz_nlt_r c37_ (show (0 : Int32).toInt = 0 by decide)
      have z1_ := tz_nle_r c38_ (show (0 : Int32).toInt = 0 by decide)
      have z2_ := tz_lt_r c47_ (show (0 : Int32).toInt = 0 by decide)
      omega
    · skip
      exfalso
      have z0_ := tz_nlt_r c37_ (show (0 : Int32).toInt = 0 by decide)
      have z1_ := tz_nle_r c38_ (show (0 : Int32).toInt = 0 by decide)
      have z2_ := tz_eq_r c48_ (show (0 : Int32).toInt = 0 by decide)
      omega
    · skip
      refine lv_icmp_eq (tgt := 983) hx hb dL_law_245 (by decide) (fun _ => ?_) (fun c9_ => absurd (by decide) c9_)
      refine lv_iinc (v := 6) (lv' := [(3, .int 6), (2, .ref (b 0)), (1, .ref (a 0)), (0, .ref sc)]) hx hb dL_law_983 hl (k := 0) rfl (by decide) (by decide) rfl (fun ls hl => ?_)
      refine lv_goto (tgt := 18) hx hb dL_law_986 (by decide) ?_
      refine lv_iload_n hx hb dL_law_18 rfl (lv_at hl 0 rfl) ?_
      refine lv_aload_n hx hb dL_law_19 rfl (lv_at hl 3 rfl) ?_
      refine va_slen hx hb hX hbl hbA hS dL_law_20 ?_
      refine tk_i 6 (by decide) ?_
      refine lv_bipush (v := 6) hx hb dL_law_21 (by decide) ?_
      refine lv_isub hx hb dL_law_23 ?_
      refine tk_i 0 (by decide) ?_
      refine lv_icmp_gt (tgt := 989) hx hb dL_law_24 (by decide) (fun _ => ?_) (fun c9_ => absurd (by decide) c9_)
      refine lv_iconst (v := 1) hx hb dL_law_989 (by decide) ?_
      refine va_forget (fun q hq => by have h := hS.2.2 q hq; rw [hAe] at h; exact h) ?_
      refine W.widen (k := 600000) (n := 7302249) (Nat.le_of_ble_eq_true rfl) (Nat.le_of_ble_eq_true rfl) ?_
      exact lw_ret hx hb hr hlocks dL_law_990
set_option maxHeartbeats 40000000 in
set_option maxRecDepth 100000 in
theorem lawc_2 {p : Program} {e : Env} {s : State} {m : MethodId} {below : List Frame} {meth : Method} {c : Code} (l : Launch) {sc : Nat} {xs : Nat → Int32} {A : Nat → Prop} {dC : Nat → ClassId} {dI : Nat → Nat → Nat} {cy : Nat → ClassId} {a b : Nat → Nat} {g : Nat → Nat → Option Nat} (hAe : A = fun q => s.heap.size ≤ q) (C0 : lw_At p s m meth c sc 6 xs) (hC : cK dC dI cy s) {H : Heap} {locs : List Loc} {ls : Array Slot} (hP : va_P (dC, dI) vwCl (fw a cy g ++ mw b cy) H) (hD : va_D A (fw a cy g ++ mw b cy)) (hS : va_S A s.heap H locs) (hl : lv_has ls 4 [(3, .int 0), (2, .ref (b 0)), (1, .ref (a 0)), (0, .ref sc)]) : W p l e room_1 s m #[Value.ref sc] below meth c H locs 1000 100000 (lw_Z below #[Value.ref sc] s) (F0 m 250 ls []) := by
  obtain ⟨hx, hb, hr, hml, hown, hts0, hX, hbl, hlocks, -⟩ := C0
  have hown : s.vm.findClass RL = some m.cls := hown
  have hts : ∀ w ∈ v_L_law, w.before #[Value.ref sc] s = true := fun w h => hts0 w (v_L_in w h)
  have hK := hC.1
  have hA : ∀ q : Nat, s.heap.size ≤ q → A q := fun q h => by rw [hAe]; exact h
  have hbA : ¬ A sc := by
    rw [hAe]
    exact Nat.not_le.mpr hbl
  obtain ⟨x0, ex0⟩ : ∃ z : Int32, xs (Int32.toNatClampNeg 0) = z := ⟨_, rfl⟩
  obtain ⟨x1, ex1⟩ : ∃ z : Int32, xs (Int32.toNatClampNeg 1) = z := ⟨_, rfl⟩
  obtain ⟨x2, ex2⟩ : ∃ z : Int32, xs (Int32.toNatClampNeg 2) = z := ⟨_, rfl⟩
  obtain ⟨x3, ex3⟩ : ∃ z : Int32, xs (Int32.toNatClampNeg 3) = z := ⟨_, rfl⟩
  obtain ⟨x4, ex4⟩ : ∃ z : Int32, xs (Int32.toNatClampNeg 4) = z := ⟨_, rfl⟩
  obtain ⟨x5, ex5⟩ : ∃ z : Int32, xs (Int32.toNatClampNeg 5) = z := ⟨_, rfl⟩
  refine lv_aload_n hx hb dL_law_250 rfl (lv_at hl 2 rfl) ?_
  refine lv_aload_n hx hb dL_law_251 rfl (lv_at hl 3 rfl) ?_
  refine lv_iload_n hx hb dL_law_252 rfl (lv_at hl 0 rfl) ?_
  refine lv_iconst (v := 1) hx hb dL_law_253 (by decide) ?_
  refine lv_iadd hx hb dL_law_254 ?_
  refine tk_i 1 (by decide) ?_
  refine va_sld hx hb hX hbl hbA hS (show ¬ ((1 : Int32) < 0 ∨ 6 ≤ Int32.toNatClampNeg 1) by decide) dL_law_255 ?_
  refine tk_i x1 ex1 ?_
  have hPc : va_P (dC, dI) vwCl (fw a cy g) _ := hP.sub [0, 1, 2, 3, 4, 5, 6, 7, 8, 9, 10, 11, 12, 13, 14, 15, 16, 17, 18, 19, 20, 21, 22, 23, 24, 25, 26, 27, 28, 29, 30, 31, 32, 33, 34, 35, 36, 37, 38, 39, 40, 41, 42, 43, 44, 45, 46, 47, 48, 49, 50, 51, 52, 53, 54, 55] rfl
  have hDc := hD.sub (ws' := fw a cy g) [0, 1, 2, 3, 4, 5, 6, 7, 8, 9, 10, 11, 12, 13, 14, 15, 16, 17, 18, 19, 20, 21, 22, 23, 24, 25, 26, 27, 28, 29, 30, 31, 32, 33, 34, 35, 36, 37, 38, 39, 40, 41, 42, 43, 44, 45, 46, 47, 48, 49, 50, 51, 52, 53, 54, 55] (by decide) rfl
  have hFc := va_free (wc := fw a cy g) hD hS hA [0, 1, 2, 3, 4, 5, 6, 7, 8, 9, 10, 11, 12, 13, 14, 15, 16, 17, 18, 19, 20, 21, 22, 23, 24, 25, 26, 27, 28, 29, 30, 31, 32, 33, 34, 35, 36, 37, 38, 39, 40, 41, 42, 43, 44, 45, 46, 47, 48, 49, 50, 51, 52, 53, 54, 55] rfl
  refine va_calli (va_runV (As := [.int x1]) (rest := []) ⟨hx, hb, hml, hown, hts⟩ (c_X11_load l dC dI cy a g _ x1) (cwV 1 hts g_L_law_X11_load_23 rfl rfl rfl (by decide +kernel) ⟨Nat.le_of_ble_eq_true rfl, Nat.le_of_ble_eq_true rfl⟩) (pv_ps hC hPc hDc (ci := 11) (q0 := 0) rfl rfl) rfl rfl hl.1 rfl (lv_room (Nat.le_of_ble_eq_true rfl)) dL_law_256 ⟨Nat.le_of_ble_eq_true rfl, Nat.le_of_ble_eq_true rfl⟩) hS (fun q _ h => hFc q h) hFc (fun r_ u t_ H1 locs ht hvm hw hB hz1 hk1 hS => ?_)
  obtain ⟨hP, hD⟩ := va_join (wr := mw b cy) (w1 := []) hP hD [0, 1, 2, 3, 4, 5, 6, 7, 8, 9, 10, 11, 12, 13, 14, 15, 16, 17, 18, 19, 20, 21, 22, 23, 24, 25, 26, 27, 28, 29, 30, 31, 32, 33, 34, 35, 36, 37, 38, 39, 40, 41, 42, 43, 44, 45, 46, 47, 48, 49, 50, 51, 52, 53, 54, 55] [56, 57, 58, 59, 60, 61, 62, 63] rfl rfl (by decide) (by decide) hk1 hFc va_P0 va_D0
  generalize H1 = H at hP hS ⊢
  have hP : va_P (dC, dI) vwCl (mw b cy) H := hP
  have hD : va_D A (mw b cy) := hD
  rcases hw with ⟨c51_, rfl⟩ | ⟨c52_, c53_, rfl⟩ | ⟨c54_, rfl⟩
  · skip
    refine lv_aload_n hx hb dL_law_259 rfl (lv_at hl 1 rfl) ?_
    refine lv_aload_n hx hb dL_law_260 rfl (lv_at hl 3 rfl) ?_
    refine lv_iload_n hx hb dL_law_261 rfl (lv_at hl 0 rfl) ?_
    refine lv_iconst (v := 1) hx hb dL_law_262 (by decide) ?_
    refine lv_iadd hx hb dL_law_263 ?_
    refine tk_i 1 (by decide) ?_
    refine va_sld hx hb hX hbl hbA hS (show ¬ ((1 : Int32) < 0 ∨ 6 ≤ Int32.toNatClampNeg 1) by decide) dL_law_264 ?_
    refine tk_i x1 ex1 ?_
    have hPc : va_P (dC, dI) vwCl (mw b cy) _ := hP.sub [0, 1, 2, 3, 4, 5, 6, 7] rfl
    have hDc := hD.sub (ws' := mw b cy) [0, 1, 2, 3, 4, 5, 6, 7] (by decide) rfl
    have hFc := va_free (wc := mw b cy) hD hS hA [0, 1, 2, 3, 4, 5, 6, 7] rfl
    refine va_calli (va_runV (As := [.int x1]) (rest := [.int (-2)]) ⟨hx, hb, hml, hown, hts⟩ (c_X12_load l dC dI cy b _ x1) (cwV 1 hts g_L_law_X12_load_26 rfl rfl rfl (by decide +kernel) ⟨Nat.le_of_ble_eq_true rfl, Nat.le_of_ble_eq_true rfl⟩) (pv_ps hC hPc hDc (ci := 12) (q0 := 0) rfl rfl) rfl rfl hl.1 rfl (lv_room (Nat.le_of_ble_eq_true rfl)) dL_law_265 ⟨Nat.le_of_ble_eq_true rfl, Nat.le_of_ble_eq_true rfl⟩) hS (fun q _ h => hFc q h) hFc (fun r_ u t_ H1 locs ht hvm hw hB hz1 hk1 hS => ?_)
    obtain ⟨hP, hD⟩ := va_join (wr := []) (w1 := []) hP hD [0, 1, 2, 3, 4, 5, 6, 7] [] rfl rfl (by decide) (by decide) hk1 hFc va_P0 va_D0
    generalize H1 = H at hP hS ⊢
    have hP : va_P (dC, dI) vwCl ([]) H := hP
    have hD : va_D A ([]) := hD
    rcases hw with ⟨c55_, rfl⟩ | ⟨c56_, c57_, rfl⟩ | ⟨c58_, rfl⟩
    · skip
      refine lv_icmp_eq (tgt := 983) hx hb dL_law_268 (by decide) (fun _ => ?_) (fun c9_ => absurd (by decide) c9_)
      refine lv_iinc (v := 6) (lv' := [(3, .int 6), (2, .ref (b 0)), (1, .ref (a 0)), (0, .ref sc)]) hx hb dL_law_983 hl (k := 0) rfl (by decide) (by decide) rfl (fun ls hl => ?_)
      refine lv_goto (tgt := 18) hx hb dL_law_986 (by decide) ?_
      refine lv_iload_n hx hb dL_law_18 rfl (lv_at hl 0 rfl) ?_
      refine lv_aload_n hx hb dL_law_19 rfl (lv_at hl 3 rfl) ?_
      refine va_slen hx hb hX hbl hbA hS dL_law_20 ?_
      refine tk_i 6 (by decide) ?_
      refine lv_bipush (v := 6) hx hb dL_law_21 (by decide) ?_
      refine lv_isub hx hb dL_law_23 ?_
      refine tk_i 0 (by decide) ?_
      refine lv_icmp_gt (tgt := 989) hx hb dL_law_24 (by decide) (fun _ => ?_) (fun c9_ => absurd (by decide) c9_)
      refine lv_iconst (v := 1) hx hb dL_law_989 (by decide) ?_
      refine va_forget (fun q hq => by have h := hS.2.2 q hq; rw [hAe] at h; exact h) ?_
      refine W.widen (k := 600000) (n := 7302249) (Nat.le_of_ble_eq_true rfl) (Nat.le_of_ble_eq_true rfl) ?_
      exact lw_ret hx hb hr hlocks dL_law_990
    · skip
      exfalso
      have z0_ := tz_lt_r c51_ (show (0 : Int32).toInt = 0 by decide)
      have z1_ := tz_nlt_r c56_ (show (0 : Int32).toInt = 0 by decide)
      omega
    · skip
      exfalso
      have z0_ := tz_lt_r c51_ (show (0 : Int32).toInt = 0 by decide)
      have z1_ := tz_eq_r c58_ (show (0 : Int32).toInt = 0 by decide)
      omega
  · skip
    refine lv_aload_n hx hb dL_law_259 rfl (lv_at hl 1 rfl) ?_
    refine lv_aload_n hx hb dL_law_260 rfl (lv_at hl 3 rfl) ?_
    refine lv_iload_n hx hb dL_law_261 rfl (lv_at hl 0 rfl) ?_
    refine lv_iconst (v := 1) hx hb dL_law_262 (by decide) ?_
    refine lv_iadd hx hb dL_law_263 ?_
    refine tk_i 1 (by decide) ?_
    refine va_sld hx hb hX hbl hbA hS (show ¬ ((1 : Int32) < 0 ∨ 6 ≤ Int32.toNatClampNeg 1) by decide) dL_law_264 ?_
    refine tk_i x1 ex1 ?_
    have hPc : va_P (dC, dI) vwCl (mw b cy) _ := hP.sub [0, 1, 2, 3, 4, 5, 6, 7] rfl
    have hDc := hD.sub (ws' := mw b cy) [0, 1, 2, 3, 4, 5, 6, 7] (by decide) rfl
    have hFc := va_free (wc := mw b cy) hD hS hA [0, 1, 2, 3, 4, 5, 6, 7] rfl
    refine va_calli (va_runV (As := [.int x1]) (rest := [.int (-2)]) ⟨hx, hb, hml, hown, hts⟩ (c_X12_load l dC dI cy b _ x1) (cwV 1 hts g_L_law_X12_load_26 rfl rfl rfl (by decide +kernel) ⟨Nat.le_of_ble_eq_true rfl, Nat.le_of_ble_eq_true rfl⟩) (pv_ps hC hPc hDc (ci := 12) (q0 := 0) rfl rfl) rfl rfl hl.1 rfl (lv_room (Nat.le_of_ble_eq_true rfl)) dL_law_265 ⟨Nat.le_of_ble_eq_true rfl, Nat.le_of_ble_eq_true rfl⟩) hS (fun q _ h => hFc q h) hFc (fun r_ u t_ H1 locs ht hvm hw hB hz1 hk1 hS => ?_)
    obtain ⟨hP, hD⟩ := va_join (wr := []) (w1 := []) hP hD [0, 1, 2, 3, 4, 5, 6, 7] [] rfl rfl (by decide) (by decide) hk1 hFc va_P0 va_D0
    generalize H1 = H at hP hS ⊢
    have hP : va_P (dC, dI) vwCl ([]) H := hP
    have hD : va_D A ([]) := hD
    rcases hw with ⟨c59_, rfl⟩ | ⟨c60_, c61_, rfl⟩ | ⟨c62_, rfl⟩
    · skip
      exfalso
      have z0_ := tz_nlt_r c52_ (show (0 : Int32).toInt = 0 by decide)
      have z1_ := tz_le_l c53_ (show (1 : Int32).toInt = 1 by decide)
      have z2_ := tz_lt_r c59_ (show (0 : Int32).toInt = 0 by decide)
      omega
    · skip
      refine lv_icmp_eq (tgt := 983) hx hb dL_law_268 (by decide) (fun _ => ?_) (fun c9_ => absurd (by decide) c9_)
      refine lv_iinc (v := 6) (lv' := [(3, .int 6), (2, .ref (b 0)), (1, .ref (a 0)), (0, .ref sc)]) hx hb dL_law_983 hl (k := 0) rfl (by decide) (by decide) rfl (fun ls hl => ?_)
      refine lv_goto (tgt := 18) hx hb dL_law_986 (by decide) ?_
      refine lv_iload_n hx hb dL_law_18 rfl (lv_at hl 0 rfl) ?_
      refine lv_aload_n hx hb dL_law_19 rfl (lv_at hl 3 rfl) ?_
      refine va_slen hx hb hX hbl hbA hS dL_law_20 ?_
      refine tk_i 6 (by decide) ?_
      refine lv_bipush (v := 6) hx hb dL_law_21 (by decide) ?_
      refine lv_isub hx hb dL_law_23 ?_
      refine tk_i 0 (by decide) ?_
      refine lv_icmp_gt (tgt := 989) hx hb dL_law_24 (by decide) (fun _ => ?_) (fun c9_ => absurd (by decide) c9_)
      refine lv_iconst (v := 1) hx hb dL_law_989 (by decide) ?_
      refine va_forget (fun q hq => by have h := hS.2.2 q hq; rw [hAe] at h; exact h) ?_
      refine W.widen (k := 600000) (n := 7302249) (Nat.le_of_ble_eq_true rfl) (Nat.le_of_ble_eq_true rfl) ?_
      exact lw_ret hx hb hr hlocks dL_law_990
    · skip
      exfalso
      have z0_ := tz_nlt_r c52_ (show (0 : Int32).toInt = 0 by decide)
      have z1_ := tz_le_l c53_ (show (1 : Int32).toInt = 1 by decide)
      have z2_ := tz_eq_r c62_ (show (0 : Int32).toInt = 0 by decide)
      omega
  · skip
    subst c54_
    refine lv_aload_n hx hb dL_law_259 rfl (lv_at hl 1 rfl) ?_
    refine lv_aload_n hx hb dL_law_260 rfl (lv_at hl 3 rfl) ?_
    refine lv_iload_n hx hb dL_law_261 rfl (lv_at hl 0 rfl) ?_
    refine lv_iconst (v := 1) hx hb dL_law_262 (by decide) ?_
    refine lv_iadd hx hb dL_law_263 ?_
    refine tk_i 1 (by decide) ?_
    refine va_sld hx hb hX hbl hbA hS (show ¬ ((1 : Int32) < 0 ∨ 6 ≤ Int32.toNatClampNeg 1) by decide) dL_law_264 ?_
    refine tk_i 0 ex1 ?_
    have hPc : va_P (dC, dI) vwCl (mw b cy) _ := hP.sub [0, 1, 2, 3, 4, 5, 6, 7] rfl
    have hDc := hD.sub (ws' := mw b cy) [0, 1, 2, 3, 4, 5, 6, 7] (by decide) rfl
    have hFc := va_free (wc := mw b cy) hD hS hA [0, 1, 2, 3, 4, 5, 6, 7] rfl
    refine va_calli (va_runV (As := [.int 0]) (rest := [.int (-6)]) ⟨hx, hb, hml, hown, hts⟩ (c_X12_load l dC dI cy b _ 0) (cwV 1 hts g_L_law_X12_load_26 rfl rfl rfl (by decide +kernel) ⟨Nat.le_of_ble_eq_true rfl, Nat.le_of_ble_eq_true rfl⟩) (pv_ps hC hPc hDc (ci := 12) (q0 := 0) rfl rfl) rfl rfl hl.1 rfl (lv_room (Nat.le_of_ble_eq_true rfl)) dL_law_265 ⟨Nat.le_of_ble_eq_true rfl, Nat.le_of_ble_eq_true rfl⟩) hS (fun q _ h => hFc q h) hFc (fun r_ u t_ H1 locs ht hvm hw hB hz1 hk1 hS => ?_)
    obtain ⟨hP, hD⟩ := va_join (wr := []) (w1 := []) hP hD [0, 1, 2, 3, 4, 5, 6, 7] [] rfl rfl (by decide) (by decide) hk1 hFc va_P0 va_D0
    generalize H1 = H at hP hS ⊢
    have hP : va_P (dC, dI) vwCl ([]) H := hP
    have hD : va_D A ([]) := hD
    rcases hw with ⟨c63_, rfl⟩ | ⟨-, c65_, rfl⟩ | ⟨-, rfl⟩
    · skip
      exact absurd c63_ (by decide)
    · skip
      exact absurd c65_ (by decide)
    · skip
      refine lv_icmp_eq (tgt := 983) hx hb dL_law_268 (by decide) (fun _ => ?_) (fun c9_ => absurd (by decide) c9_)
      refine lv_iinc (v := 6) (lv' := [(3, .int 6), (2, .ref (b 0)), (1, .ref (a 0)), (0, .ref sc)]) hx hb dL_law_983 hl (k := 0) rfl (by decide) (by decide) rfl (fun ls hl => ?_)
      refine lv_goto (tgt := 18) hx hb dL_law_986 (by decide) ?_
      refine lv_iload_n hx hb dL_law_18 rfl (lv_at hl 0 rfl) ?_
      refine lv_aload_n hx hb dL_law_19 rfl (lv_at hl 3 rfl) ?_
      refine va_slen hx hb hX hbl hbA hS dL_law_20 ?_
      refine tk_i 6 (by decide) ?_
      refine lv_bipush (v := 6) hx hb dL_law_21 (by decide) ?_
      refine lv_isub hx hb dL_law_23 ?_
      refine tk_i 0 (by decide) ?_
      refine lv_icmp_gt (tgt := 989) hx hb dL_law_24 (by decide) (fun _ => ?_) (fun c9_ => absurd (by decide) c9_)
      refine lv_iconst (v := 1) hx hb dL_law_989 (by decide) ?_
      refine va_forget (fun q hq => by have h := hS.2.2 q hq; rw [hAe] at h; exact h) ?_
      refine W.widen (k := 600000) (n := 7302249) (Nat.le_of_ble_eq_true rfl) (Nat.le_of_ble_eq_true rfl) ?_
      exact lw_ret hx hb hr hlocks dL_law_990
set_option maxHeartbeats 40000000 in
set_option maxRecDepth 100000 in
theorem lawc_3 {p : Program} {e : Env} {s : State} {m : MethodId} {below : List Frame} {meth : Method} {c : Code} (l : Launch) {sc : Nat} {xs : Nat → Int32} {A : Nat → Prop} {dC : Nat → ClassId} {dI : Nat → Nat → Nat} {cy : Nat → ClassId} {a b : Nat → Nat} {g : Nat → Nat → Option Nat} (hAe : A = fun q => s.heap.size ≤ q) (C0 : lw_At p s m meth c sc 6 xs) (hC : cK dC dI cy s) {H : Heap} {locs : List Loc} {ls : Array Slot} (hP : va_P (dC, dI) vwCl (fw a cy g ++ mw b cy) H) (hD : va_D A (fw a cy g ++ mw b cy)) (hS : va_S A s.heap H locs) (hl : lv_has ls 4 [(3, .int 0), (2, .ref (b 0)), (1, .ref (a 0)), (0, .ref sc)]) : W p l e room_1 s m #[Value.ref sc] below meth c H locs 1000 100000 (lw_Z below #[Value.ref sc] s) (F0 m 273 ls []) := by
  obtain ⟨hx, hb, hr, hml, hown, hts0, hX, hbl, hlocks, -⟩ := C0
  have hown : s.vm.findClass RL = some m.cls := hown
  have hts : ∀ w ∈ v_L_law, w.before #[Value.ref sc] s = true := fun w h => hts0 w (v_L_in w h)
  have hK := hC.1
  have hA : ∀ q : Nat, s.heap.size ≤ q → A q := fun q h => by rw [hAe]; exact h
  have hbA : ¬ A sc := by
    rw [hAe]
    exact Nat.not_le.mpr hbl
  obtain ⟨x0, ex0⟩ : ∃ z : Int32, xs (Int32.toNatClampNeg 0) = z := ⟨_, rfl⟩
  obtain ⟨x1, ex1⟩ : ∃ z : Int32, xs (Int32.toNatClampNeg 1) = z := ⟨_, rfl⟩
  obtain ⟨x2, ex2⟩ : ∃ z : Int32, xs (Int32.toNatClampNeg 2) = z := ⟨_, rfl⟩
  obtain ⟨x3, ex3⟩ : ∃ z : Int32, xs (Int32.toNatClampNeg 3) = z := ⟨_, rfl⟩
  obtain ⟨x4, ex4⟩ : ∃ z : Int32, xs (Int32.toNatClampNeg 4) = z := ⟨_, rfl⟩
  obtain ⟨x5, ex5⟩ : ∃ z : Int32, xs (Int32.toNatClampNeg 5) = z := ⟨_, rfl⟩
  refine lv_aload_n hx hb dL_law_273 rfl (lv_at hl 2 rfl) ?_
  have hPc : va_P (dC, dI) vwCl (fw a cy g) _ := hP.sub [0, 1, 2, 3, 4, 5, 6, 7, 8, 9, 10, 11, 12, 13, 14, 15, 16, 17, 18, 19, 20, 21, 22, 23, 24, 25, 26, 27, 28, 29, 30, 31, 32, 33, 34, 35, 36, 37, 38, 39, 40, 41, 42, 43, 44, 45, 46, 47, 48, 49, 50, 51, 52, 53, 54, 55] rfl
  refine tk_pi (va_runV (As := []) (rest := []) ⟨hx, hb, hml, hown, hts⟩ (c_X11_fault l dC dI cy a g) (cwV 0 hts g_L_law_X11_fault_27 rfl rfl rfl (by decide +kernel) ⟨Nat.le_of_ble_eq_true rfl, Nat.le_of_ble_eq_true rfl⟩) (pv_pp hC hPc (ci := 11) (q0 := 0) rfl rfl) rfl rfl hl.1 rfl (lv_room (Nat.le_of_ble_eq_true rfl)) dL_law_274 ⟨Nat.le_of_ble_eq_true rfl, Nat.le_of_ble_eq_true rfl⟩) hP hS (fun r_ H locs hw hP hS => ?_)
  subst hw
  refine lv_aload_n hx hb dL_law_277 rfl (lv_at hl 1 rfl) ?_
  have hPc : va_P (dC, dI) vwCl (mw b cy) _ := hP.sub [56, 57, 58, 59, 60, 61, 62, 63] rfl
  have hDc := hD.sub (ws' := mw b cy) [56, 57, 58, 59, 60, 61, 62, 63] (by decide) rfl
  have hFc := va_free (wc := mw b cy) hD hS hA [56, 57, 58, 59, 60, 61, 62, 63] rfl
  refine va_calli (va_runV (As := []) (rest := [.int (-1)]) ⟨hx, hb, hml, hown, hts⟩ (c_X12_fault l dC dI cy b _) (cwV 0 hts g_L_law_X12_fault_31 rfl rfl rfl (by decide +kernel) ⟨Nat.le_of_ble_eq_true rfl, Nat.le_of_ble_eq_true rfl⟩) (pv_ps hC hPc hDc (ci := 12) (q0 := 0) rfl rfl) rfl rfl hl.1 rfl (lv_room (Nat.le_of_ble_eq_true rfl)) dL_law_278 ⟨Nat.le_of_ble_eq_true rfl, Nat.le_of_ble_eq_true rfl⟩) hS (fun q _ h => hFc q h) hFc (fun r_ u t_ H1 locs ht hvm hw hB hz1 hk1 hS => ?_)
  obtain ⟨hP, hD⟩ := va_join (wr := []) (w1 := []) hP hD [56, 57, 58, 59, 60, 61, 62, 63] [] rfl rfl (by decide) (by decide) hk1 hFc va_P0 va_D0
  generalize H1 = H at hP hS ⊢
  have hP : va_P (dC, dI) vwCl ([]) H := hP
  have hD : va_D A ([]) := hD
  subst hw
  refine lv_icmp_eq (tgt := 983) hx hb dL_law_281 (by decide) (fun _ => ?_) (fun c9_ => absurd (by decide) c9_)
  refine lv_iinc (v := 6) (lv' := [(3, .int 6), (2, .ref (b 0)), (1, .ref (a 0)), (0, .ref sc)]) hx hb dL_law_983 hl (k := 0) rfl (by decide) (by decide) rfl (fun ls hl => ?_)
  refine lv_goto (tgt := 18) hx hb dL_law_986 (by decide) ?_
  refine lv_iload_n hx hb dL_law_18 rfl (lv_at hl 0 rfl) ?_
  refine lv_aload_n hx hb dL_law_19 rfl (lv_at hl 3 rfl) ?_
  refine va_slen hx hb hX hbl hbA hS dL_law_20 ?_
  refine tk_i 6 (by decide) ?_
  refine lv_bipush (v := 6) hx hb dL_law_21 (by decide) ?_
  refine lv_isub hx hb dL_law_23 ?_
  refine tk_i 0 (by decide) ?_
  refine lv_icmp_gt (tgt := 989) hx hb dL_law_24 (by decide) (fun _ => ?_) (fun c9_ => absurd (by decide) c9_)
  refine lv_iconst (v := 1) hx hb dL_law_989 (by decide) ?_
  refine va_forget (fun q hq => by have h := hS.2.2 q hq; rw [hAe] at h; exact h) ?_
  refine W.widen (k := 600000) (n := 7302249) (Nat.le_of_ble_eq_true rfl) (Nat.le_of_ble_eq_true rfl) ?_
  exact lw_ret hx hb hr hlocks dL_law_990
set_option maxHeartbeats 40000000 in
set_option maxRecDepth 100000 in
theorem lawc_4 {p : Program} {e : Env} {s : State} {m : MethodId} {below : List Frame} {meth : Method} {c : Code} (l : Launch) {sc : Nat} {xs : Nat → Int32} {A : Nat → Prop} {dC : Nat → ClassId} {dI : Nat → Nat → Nat} {cy : Nat → ClassId} {a b : Nat → Nat} {g : Nat → Nat → Option Nat} (hAe : A = fun q => s.heap.size ≤ q) (C0 : lw_At p s m meth c sc 6 xs) (hC : cK dC dI cy s) {H : Heap} {locs : List Loc} {ls : Array Slot} (hP : va_P (dC, dI) vwCl (fw a cy g ++ mw b cy) H) (hD : va_D A (fw a cy g ++ mw b cy)) (hS : va_S A s.heap H locs) (hl : lv_has ls 4 [(3, .int 0), (2, .ref (b 0)), (1, .ref (a 0)), (0, .ref sc)]) : W p l e room_1 s m #[Value.ref sc] below meth c H locs 1000 100000 (lw_Z below #[Value.ref sc] s) (F0 m 286 ls []) := by
  obtain ⟨hx, hb, hr, hml, hown, hts0, hX, hbl, hlocks, -⟩ := C0
  have hown : s.vm.findClass RL = some m.cls := hown
  have hts : ∀ w ∈ v_L_law, w.before #[Value.ref sc] s = true := fun w h => hts0 w (v_L_in w h)
  have hK := hC.1
  have hA : ∀ q : Nat, s.heap.size ≤ q → A q := fun q h => by rw [hAe]; exact h
  have hbA : ¬ A sc := by
    rw [hAe]
    exact Nat.not_le.mpr hbl
  obtain ⟨x0, ex0⟩ : ∃ z : Int32, xs (Int32.toNatClampNeg 0) = z := ⟨_, rfl⟩
  obtain ⟨x1, ex1⟩ : ∃ z : Int32, xs (Int32.toNatClampNeg 1) = z := ⟨_, rfl⟩
  obtain ⟨x2, ex2⟩ : ∃ z : Int32, xs (Int32.toNatClampNeg 2) = z := ⟨_, rfl⟩
  obtain ⟨x3, ex3⟩ : ∃ z : Int32, xs (Int32.toNatClampNeg 3) = z := ⟨_, rfl⟩
  obtain ⟨x4, ex4⟩ : ∃ z : Int32, xs (Int32.toNatClampNeg 4) = z := ⟨_, rfl⟩
  obtain ⟨x5, ex5⟩ : ∃ z : Int32, xs (Int32.toNatClampNeg 5) = z := ⟨_, rfl⟩
  refine lv_aload_n hx hb dL_law_286 rfl (lv_at hl 2 rfl) ?_
  refine lv_aload_n hx hb dL_law_287 rfl (lv_at hl 3 rfl) ?_
  refine lv_iload_n hx hb dL_law_288 rfl (lv_at hl 0 rfl) ?_
  refine lv_iconst (v := 1) hx hb dL_law_289 (by decide) ?_
  refine lv_iadd hx hb dL_law_290 ?_
  refine tk_i 1 (by decide) ?_
  refine va_sld hx hb hX hbl hbA hS (show ¬ ((1 : Int32) < 0 ∨ 6 ≤ Int32.toNatClampNeg 1) by decide) dL_law_291 ?_
  refine tk_i x1 ex1 ?_
  refine lv_aload_n hx hb dL_law_292 rfl (lv_at hl 3 rfl) ?_
  refine lv_iload_n hx hb dL_law_293 rfl (lv_at hl 0 rfl) ?_
  refine lv_iconst (v := 2) hx hb dL_law_294 (by decide) ?_
  refine lv_iadd hx hb dL_law_295 ?_
  refine tk_i 2 (by decide) ?_
  refine va_sld hx hb hX hbl hbA hS (show ¬ ((2 : Int32) < 0 ∨ 6 ≤ Int32.toNatClampNeg 2) by decide) dL_law_296 ?_
  refine tk_i x2 ex2 ?_
  refine lv_aload_n hx hb dL_law_297 rfl (lv_at hl 3 rfl) ?_
  refine lv_iload_n hx hb dL_law_298 rfl (lv_at hl 0 rfl) ?_
  refine lv_iconst (v := 3) hx hb dL_law_299 (by decide) ?_
  refine lv_iadd hx hb dL_law_300 ?_
  refine tk_i 3 (by decide) ?_
  refine va_sld hx hb hX hbl hbA hS (show ¬ ((3 : Int32) < 0 ∨ 6 ≤ Int32.toNatClampNeg 3) by decide) dL_law_301 ?_
  refine tk_i x3 ex3 ?_
  refine lv_aload_n hx hb dL_law_302 rfl (lv_at hl 3 rfl) ?_
  refine lv_iload_n hx hb dL_law_303 rfl (lv_at hl 0 rfl) ?_
  refine lv_iconst (v := 4) hx hb dL_law_304 (by decide) ?_
  refine lv_iadd hx hb dL_law_305 ?_
  refine tk_i 4 (by decide) ?_
  refine va_sld hx hb hX hbl hbA hS (show ¬ ((4 : Int32) < 0 ∨ 6 ≤ Int32.toNatClampNeg 4) by decide) dL_law_306 ?_
  refine tk_i x4 ex4 ?_
  have hPc : va_P (dC, dI) vwCl (fw a cy g) _ := hP.sub [0, 1, 2, 3, 4, 5, 6, 7, 8, 9, 10, 11, 12, 13, 14, 15, 16, 17, 18, 19, 20, 21, 22, 23, 24, 25, 26, 27, 28, 29, 30, 31, 32, 33, 34, 35, 36, 37, 38, 39, 40, 41, 42, 43, 44, 45, 46, 47, 48, 49, 50, 51, 52, 53, 54, 55] rfl
  have hDc := hD.sub (ws' := fw a cy g) [0, 1, 2, 3, 4, 5, 6, 7, 8, 9, 10, 11, 12, 13, 14, 15, 16, 17, 18, 19, 20, 21, 22, 23, 24, 25, 26, 27, 28, 29, 30, 31, 32, 33, 34, 35, 36, 37, 38, 39, 40, 41, 42, 43, 44, 45, 46, 47, 48, 49, 50, 51, 52, 53, 54, 55] (by decide) rfl
  have hFc := va_free (wc := fw a cy g) hD hS hA [0, 1, 2, 3, 4, 5, 6, 7, 8, 9, 10, 11, 12, 13, 14, 15, 16, 17, 18, 19, 20, 21, 22, 23, 24, 25, 26, 27, 28, 29, 30, 31, 32, 33, 34, 35, 36, 37, 38, 39, 40, 41, 42, 43, 44, 45, 46, 47, 48, 49, 50, 51, 52, 53, 54, 55] rfl
  refine va_calli (va_runV (As := [.int x1, .int x2, .int x3, .int x4]) (rest := []) ⟨hx, hb, hml, hown, hts⟩ (c_X11_call l dC dI cy a g _ x1 x2 x3 x4) (cwV 4 hts g_L_law_X11_call_32 rfl rfl rfl (by decide +kernel) ⟨Nat.le_of_ble_eq_true rfl, Nat.le_of_ble_eq_true rfl⟩) (pv_ps hC hPc hDc (ci := 11) (q0 := 0) rfl rfl) rfl rfl hl.1 rfl (lv_room (Nat.le_of_ble_eq_true rfl)) dL_law_307 ⟨Nat.le_of_ble_eq_true rfl, Nat.le_of_ble_eq_true rfl⟩) hS (fun q _ h => hFc q h) hFc (fun r_ u t_ H1 locs ht hvm hw hB hz1 hk1 hS => ?_)
  obtain ⟨hP, hD⟩ := va_join (wr := mw b cy) (w1 := []) hP hD [0, 1, 2, 3, 4, 5, 6, 7, 8, 9, 10, 11, 12, 13, 14, 15, 16, 17, 18, 19, 20, 21, 22, 23, 24, 25, 26, 27, 28, 29, 30, 31, 32, 33, 34, 35, 36, 37, 38, 39, 40, 41, 42, 43, 44, 45, 46, 47, 48, 49, 50, 51, 52, 53, 54, 55] [56, 57, 58, 59, 60, 61, 62, 63] rfl rfl (by decide) (by decide) hk1 hFc va_P0 va_D0
  generalize H1 = H at hP hS ⊢
  have hP : va_P (dC, dI) vwCl (mw b cy) H := hP
  have hD : va_D A (mw b cy) := hD
  rcases hw with ⟨c67_, rfl⟩ | ⟨c68_, c69_, rfl⟩ | ⟨c70_, c71_, c72_, rfl⟩ | ⟨c73_, c74_, c75_, c76_, rfl⟩ | ⟨c77_, c78_, c79_, c80_, c81_, rfl⟩ | ⟨c82_, c83_, c84_, c85_, c86_, c87_, rfl⟩ | ⟨c88_, c89_, c90_, c91_, c92_, c93_, c94_, rfl⟩ | ⟨c95_, c96_, c97_, c98_, c99_, c100_, c101_, c102_, rfl⟩ | ⟨c103_, c104_, c105_, c106_, c107_, c108_, c109_, rfl⟩
  · skip
    refine lv_aload_n hx hb dL_law_310 rfl (lv_at hl 1 rfl) ?_
    refine lv_aload_n hx hb dL_law_311 rfl (lv_at hl 3 rfl) ?_
    refine lv_iload_n hx hb dL_law_312 rfl (lv_at hl 0 rfl) ?_
    refine lv_iconst (v := 1) hx hb dL_law_313 (by decide) ?_
    refine lv_iadd hx hb dL_law_314 ?_
    refine tk_i 1 (by decide) ?_
    refine va_sld hx hb hX hbl hbA hS (show ¬ ((1 : Int32) < 0 ∨ 6 ≤ Int32.toNatClampNeg 1) by decide) dL_law_315 ?_
    refine tk_i x1 ex1 ?_
    refine lv_aload_n hx hb dL_law_316 rfl (lv_at hl 3 rfl) ?_
    refine lv_iload_n hx hb dL_law_317 rfl (lv_at hl 0 rfl) ?_
    refine lv_iconst (v := 2) hx hb dL_law_318 (by decide) ?_
    refine lv_iadd hx hb dL_law_319 ?_
    refine tk_i 2 (by decide) ?_
    refine va_sld hx hb hX hbl hbA hS (show ¬ ((2 : Int32) < 0 ∨ 6 ≤ Int32.toNatClampNeg 2) by decide) dL_law_320 ?_
    refine tk_i x2 ex2 ?_
    refine lv_aload_n hx hb dL_law_321 rfl (lv_at hl 3 rfl) ?_
    refine lv_iload_n hx hb dL_law_322 rfl (lv_at hl 0 rfl) ?_
    refine lv_iconst (v := 3) hx hb dL_law_323 (by decide) ?_
    refine lv_iadd hx hb dL_law_324 ?_
    refine tk_i 3 (by decide) ?_
    refine va_sld hx hb hX hbl hbA hS (show ¬ ((3 : Int32) < 0 ∨ 6 ≤ Int32.toNatClampNeg 3) by decide) dL_law_325 ?_
    refine tk_i x3 ex3 ?_
    refine lv_aload_n hx hb dL_law_326 rfl (lv_at hl 3 rfl) ?_
    refine lv_iload_n hx hb dL_law_327 rfl (lv_at hl 0 rfl) ?_
    refine lv_iconst (v := 4) hx hb dL_law_328 (by decide) ?_
    refine lv_iadd hx hb dL_law_329 ?_
    refine tk_i 4 (by decide) ?_
    refine va_sld hx hb hX hbl hbA hS (show ¬ ((4 : Int32) < 0 ∨ 6 ≤ Int32.toNatClampNeg 4) by decide) dL_law_330 ?_
    refine tk_i x4 ex4 ?_
    have hPc : va_P (dC, dI) vwCl (mw b cy) _ := hP.sub [0, 1, 2, 3, 4, 5, 6, 7] rfl
    have hDc := hD.sub (ws' := mw b cy) [0, 1, 2, 3, 4, 5, 6, 7] (by decide) rfl
    have hFc := va_free (wc := mw b cy) hD hS hA [0, 1, 2, 3, 4, 5, 6, 7] rfl
    refine va_calli (va_runV (As := [.int x1, .int x2, .int x3, .int x4]) (rest := [.int (-1)]) ⟨hx, hb, hml, hown, hts⟩ (c_X12_call l dC dI cy b _ x1 x2 x3 x4) (cwV 4 hts g_L_law_X12_call_36 rfl rfl rfl (by decide +kernel) ⟨Nat.le_of_ble_eq_true rfl, Nat.le_of_ble_eq_true rfl⟩) (pv_ps hC hPc hDc (ci := 12) (q0 := 0) rfl rfl) rfl rfl hl.1 rfl (lv_room (Nat.le_of_ble_eq_true rfl)) dL_law_331 ⟨Nat.le_of_ble_eq_true rfl, Nat.le_of_ble_eq_true rfl⟩) hS (fun q _ h => hFc q h) hFc (fun r_ u t_ H1 locs ht hvm hw hB hz1 hk1 hS => ?_)
    obtain ⟨hP, hD⟩ := va_join (wr := []) (w1 := []) hP hD [0, 1, 2, 3, 4, 5, 6, 7] [] rfl rfl (by decide) (by decide) hk1 hFc va_P0 va_D0
    generalize H1 = H at hP hS ⊢
    have hP : va_P (dC, dI) vwCl ([]) H := hP
    have hD : va_D A ([]) := hD
    rcases hw with ⟨c110_, rfl⟩ | ⟨c111_, c112_, rfl⟩ | ⟨c113_, c114_, c115_, rfl⟩ | ⟨c116_, c117_, c118_, c119_, rfl⟩ | ⟨c120_, c121_, c122_, c123_, c124_, rfl⟩ | ⟨c125_, c126_, c127_, c128_, c129_, c130_, rfl⟩ | ⟨c131_, c132_, c133_, c134_, c135_, c136_, c137_, rfl⟩ | ⟨c138_, c139_, c140_, c141_, c142_, c143_, c144_, c145_, rfl⟩ | ⟨c146_, c147_, c148_, c149_, c150_, c151_, c152_, rfl⟩
    · skip
      refine lv_icmp_eq (tgt := 983) hx hb dL_law_334 (by decide) (fun _ => ?_) (fun c9_ => absurd (by decide) c9_)
      refine lv_iinc (v := 6) (lv' := [(3, .int 6), (2, .ref (b 0)), (1, .ref (a 0)), (0, .ref sc)]) hx hb dL_law_983 hl (k := 0) rfl (by decide) (by decide) rfl (fun ls hl => ?_)
      refine lv_goto (tgt := 18) hx hb dL_law_986 (by decide) ?_
      refine lv_iload_n hx hb dL_law_18 rfl (lv_at hl 0 rfl) ?_
      refine lv_aload_n hx hb dL_law_19 rfl (lv_at hl 3 rfl) ?_
      refine va_slen hx hb hX hbl hbA hS dL_law_20 ?_
      refine tk_i 6 (by decide) ?_
      refine lv_bipush (v := 6) hx hb dL_law_21 (by decide) ?_
      refine lv_isub hx hb dL_law_23 ?_
      refine tk_i 0 (by decide) ?_
      refine lv_icmp_gt (tgt := 989) hx hb dL_law_24 (by decide) (fun _ => ?_) (fun c9_ => absurd (by decide) c9_)
      refine lv_iconst (v := 1) hx hb dL_law_989 (by decide) ?_
      refine va_forget (fun q hq => by have h := hS.2.2 q hq; rw [hAe] at h; exact h) ?_
      refine W.widen (k := 600000) (n := 7302249) (Nat.le_of_ble_eq_true rfl) (Nat.le_of_ble_eq_true rfl) ?_
      exact lw_ret hx hb hr hlocks dL_law_990
    · skip
      exfalso
      have z0_ := tz_lt_r c67_ (show (0 : Int32).toInt = 0 by decide)
      have z1_ := tz_nlt_r c111_ (show (0 : Int32).toInt = 0 by decide)
      omega
    · skip
      exfalso
      have z0_ := tz_lt_r c67_ (show (0 : Int32).toInt = 0 by decide)
      have z1_ := tz_nlt_r c113_ (show (0 : Int32).toInt = 0 by decide)
      omega
    · skip
      exfalso
      have z0_ := tz_lt_r c67_ (show (0 : Int32).toInt = 0 by decide)
      have z1_ := tz_nlt_r c116_ (show (0 : Int32).toInt = 0 by decide)
      omega
    · skip
      exfalso
      have z0_ := tz_lt_r c67_ (show (0 : Int32).toInt = 0 by decide)
      have z1_ := tz_nlt_r c120_ (show (0 : Int32).toInt = 0 by decide)
      omega
    · skip
      exfalso
      have z0_ := tz_lt_r c67_ (show (0 : Int32).toInt = 0 by decide)
      have z1_ := tz_nlt_r c125_ (show (0 : Int32).toInt = 0 by decide)
      omega
    · skip
      exfalso
      have z0_ := tz_lt_r c67_ (show (0 : Int32).toInt = 0 by decide)
      have z1_ := tz_nlt_r c131_ (show (0 : Int32).toInt = 0 by decide)
      omega
    · skip
      exfalso
      have z0_ := tz_lt_r c67_ (show (0 : Int32).toInt = 0 by decide)
      have z1_ := tz_nlt_r c138_ (show (0 : Int32).toInt = 0 by decide)
      omega
    · skip
      exfalso
      have z0_ := tz_lt_r c67_ (show (0 : Int32).toInt = 0 by decide)
      have z1_ := tz_nlt_r c146_ (show (0 : Int32).toInt = 0 by decide)
      omega
  · skip
    refine lv_aload_n hx hb dL_law_310 rfl (lv_at hl 1 rfl) ?_
    refine lv_aload_n hx hb dL_law_311 rfl (lv_at hl 3 rfl) ?_
    refine lv_iload_n hx hb dL_law_312 rfl (lv_at hl 0 rfl) ?_
    refine lv_iconst (v := 1) hx hb dL_law_313 (by decide) ?_
    refine lv_iadd hx hb dL_law_314 ?_
    refine tk_i 1 (by decide) ?_
    refine va_sld hx hb hX hbl hbA hS (show ¬ ((1 : Int32) < 0 ∨ 6 ≤ Int32.toNatClampNeg 1) by decide) dL_law_315 ?_
    refine tk_i x1 ex1 ?_
    refine lv_aload_n hx hb dL_law_316 rfl (lv_at hl 3 rfl) ?_
    refine lv_iload_n hx hb dL_law_317 rfl (lv_at hl 0 rfl) ?_
    refine lv_iconst (v := 2) hx hb dL_law_318 (by decide) ?_
    refine lv_iadd hx hb dL_law_319 ?_
    refine tk_i 2 (by decide) ?_
    refine va_sld hx hb hX hbl hbA hS (show ¬ ((2 : Int32) < 0 ∨ 6 ≤ Int32.toNatClampNeg 2) by decide) dL_law_320 ?_
    refine tk_i x2 ex2 ?_
    refine lv_aload_n hx hb dL_law_321 rfl (lv_at hl 3 rfl) ?_
    refine lv_iload_n hx hb dL_law_322 rfl (lv_at hl 0 rfl) ?_
    refine lv_iconst (v := 3) hx hb dL_law_323 (by decide) ?_
    refine lv_iadd hx hb dL_law_324 ?_
    refine tk_i 3 (by decide) ?_
    refine va_sld hx hb hX hbl hbA hS (show ¬ ((3 : Int32) < 0 ∨ 6 ≤ Int32.toNatClampNeg 3) by decide) dL_law_325 ?_
    refine tk_i x3 ex3 ?_
    refine lv_aload_n hx hb dL_law_326 rfl (lv_at hl 3 rfl) ?_
    refine lv_iload_n hx hb dL_law_327 rfl (lv_at hl 0 rfl) ?_
    refine lv_iconst (v := 4) hx hb dL_law_328 (by decide) ?_
    refine lv_iadd hx hb dL_law_329 ?_
    refine tk_i 4 (by decide) ?_
    refine va_sld hx hb hX hbl hbA hS (show ¬ ((4 : Int32) < 0 ∨ 6 ≤ Int32.toNatClampNeg 4) by decide) dL_law_330 ?_
    refine tk_i x4 ex4 ?_
    have hPc : va_P (dC, dI) vwCl (mw b cy) _ := hP.sub [0, 1, 2, 3, 4, 5, 6, 7] rfl
    have hDc := hD.sub (ws' := mw b cy) [0, 1, 2, 3, 4, 5, 6, 7] (by decide) rfl
    have hFc := va_free (wc := mw b cy) hD hS hA [0, 1, 2, 3, 4, 5, 6, 7] rfl
    refine va_calli (va_runV (As := [.int x1, .int x2, .int x3, .int x4]) (rest := [.int (-1)]) ⟨hx, hb, hml, hown, hts⟩ (c_X12_call l dC dI cy b _ x1 x2 x3 x4) (cwV 4 hts g_L_law_X12_call_36 rfl rfl rfl (by decide +kernel) ⟨Nat.le_of_ble_eq_true rfl, Nat.le_of_ble_eq_true rfl⟩) (pv_ps hC hPc hDc (ci := 12) (q0 := 0) rfl rfl) rfl rfl hl.1 rfl (lv_room (Nat.le_of_ble_eq_true rfl)) dL_law_331 ⟨Nat.le_of_ble_eq_true rfl, Nat.le_of_ble_eq_true rfl⟩) hS (fun q _ h => hFc q h) hFc (fun r_ u t_ H1 locs ht hvm hw hB hz1 hk1 hS => ?_)
    obtain ⟨hP, hD⟩ := va_join (wr := []) (w1 := []) hP hD [0, 1, 2, 3, 4, 5, 6, 7] [] rfl rfl (by decide) (by decide) hk1 hFc va_P0 va_D0
    generalize H1 = H at hP hS ⊢
    have hP : va_P (dC, dI) vwCl ([]) H := hP
    have hD : va_D A ([]) := hD
    rcases hw with ⟨c153_, rfl⟩ | ⟨c154_, c155_, rfl⟩ | ⟨c156_, c157_, c158_, rfl⟩ | ⟨c159_, c160_, c161_, c162_, rfl⟩ | ⟨c163_, c164_, c165_, c166_, c167_, rfl⟩ | ⟨c168_, c169_, c170_, c171_, c172_, c173_, rfl⟩ | ⟨c174_, c175_, c176_, c177_, c178_, c179_, c180_, rfl⟩ | ⟨c181_, c182_, c183_, c184_, c185_, c186_, c187_, c188_, rfl⟩ | ⟨c189_, c190_, c191_, c192_, c193_, c194_, c195_, rfl⟩
    · skip
      exfalso
      have z0_ := tz_nlt_r c68_ (show (0 : Int32).toInt = 0 by decide)
      have z1_ := tz_le_l c69_ (show (65536 : Int32).toInt = 65536 by decide)
      have z2_ := tz_lt_r c153_ (show (0 : Int32).toInt = 0 by decide)
      omega
    · skip
      refine lv_icmp_eq (tgt := 983) hx hb dL_law_334 (by decide) (fun _ => ?_) (fun c9_ => absurd (by decide) c9_)
      refine lv_iinc (v := 6) (lv' := [(3, .int 6), (2, .ref (b 0)), (1, .ref (a 0)), (0, .ref sc)]) hx hb dL_law_983 hl (k := 0) rfl (by decide) (by decide) rfl (fun ls hl => ?_)
      refine lv_goto (tgt := 18) hx hb dL_law_986 (by decide) ?_
      refine lv_iload_n hx hb dL_law_18 rfl (lv_at hl 0 rfl) ?_
      refine lv_aload_n hx hb dL_law_19 rfl (lv_at hl 3 rfl) ?_
      refine va_slen hx hb hX hbl hbA hS dL_law_20 ?_
      refine tk_i 6 (by decide) ?_
      refine lv_bipush (v := 6) hx hb dL_law_21 (by decide) ?_
      refine lv_isub hx hb dL_law_23 ?_
      refine tk_i 0 (by decide) ?_
      refine lv_icmp_gt (tgt := 989) hx hb dL_law_24 (by decide) (fun _ => ?_) (fun c9_ => absurd (by decide) c9_)
      refine lv_iconst (v := 1) hx hb dL_law_989 (by decide) ?_
      refine va_forget (fun q hq => by have h := hS.2.2 q hq; rw [hAe] at h; exact h) ?_
      refine W.widen (k := 600000) (n := 7302249) (Nat.le_of_ble_eq_true rfl) (Nat.le_of_ble_eq_true rfl) ?_
      exact lw_ret hx hb hr hlocks dL_law_990
    · skip
      exfalso
      have z0_ := tz_nlt_r c68_ (show (0 : Int32).toInt = 0 by decide)
      have z1_ := tz_le_l c69_ (show (65536 : Int32).toInt = 65536 by decide)
      have z2_ := tz_nle_l c157_ (show (65536 : Int32).toInt = 65536 by decide)
      omega
    · skip
      exfalso
      have z0_ := tz_nlt_r c68_ (show (0 : Int32).toInt = 0 by decide)
      have z1_ := tz_le_l c69_ (show (65536 : Int32).toInt = 65536 by decide)
      have z2_ := tz_nle_l c160_ (show (65536 : Int32).toInt = 65536 by decide)
      omega
    · skip
      exfalso
      have z0_ := tz_nlt_r c68_ (show (0 : Int32).toInt = 0 by decide)
      have z1_ := tz_le_l c69_ (show (65536 : Int32).toInt = 65536 by decide)
      have z2_ := tz_nle_l c164_ (show (65536 : Int32).toInt = 65536 by decide)
      omega
    · skip
      exfalso
      have z0_ := tz_nlt_r c68_ (show (0 : Int32).toInt = 0 by decide)
      have z1_ := tz_le_l c69_ (show (65536 : Int32).toInt = 65536 by decide)
      have z2_ := tz_nle_l c169_ (show (65536 : Int32).toInt = 65536 by decide)
      omega
    · skip
      exfalso
      have z0_ := tz_nlt_r c68_ (show (0 : Int32).toInt = 0 by decide)
      have z1_ := tz_le_l c69_ (show (65536 : Int32).toInt = 65536 by decide)
      have z2_ := tz_nle_l c175_ (show (65536 : Int32).toInt = 65536 by decide)
      omega
    · skip
      exfalso
      have z0_ := tz_nlt_r c68_ (show (0 : Int32).toInt = 0 by decide)
      have z1_ := tz_le_l c69_ (show (65536 : Int32).toInt = 65536 by decide)
      have z2_ := tz_nle_l c182_ (show (65536 : Int32).toInt = 65536 by decide)
      omega
    · skip
      exfalso
      have z0_ := tz_nlt_r c68_ (show (0 : Int32).toInt = 0 by decide)
      have z1_ := tz_le_l c69_ (show (65536 : Int32).toInt = 65536 by decide)
      have z2_ := tz_nle_l c190_ (show (65536 : Int32).toInt = 65536 by decide)
      omega
  · skip
    refine lv_aload_n hx hb dL_law_310 rfl (lv_at hl 1 rfl) ?_
    refine lv_aload_n hx hb dL_law_311 rfl (lv_at hl 3 rfl) ?_
    refine lv_iload_n hx hb dL_law_312 rfl (lv_at hl 0 rfl) ?_
    refine lv_iconst (v := 1) hx hb dL_law_313 (by decide) ?_
    refine lv_iadd hx hb dL_law_314 ?_
    refine tk_i 1 (by decide) ?_
    refine va_sld hx hb hX hbl hbA hS (show ¬ ((1 : Int32) < 0 ∨ 6 ≤ Int32.toNatClampNeg 1) by decide) dL_law_315 ?_
    refine tk_i x1 ex1 ?_
    refine lv_aload_n hx hb dL_law_316 rfl (lv_at hl 3 rfl) ?_
    refine lv_iload_n hx hb dL_law_317 rfl (lv_at hl 0 rfl) ?_
    refine lv_iconst (v := 2) hx hb dL_law_318 (by decide) ?_
    refine lv_iadd hx hb dL_law_319 ?_
    refine tk_i 2 (by decide) ?_
    refine va_sld hx hb hX hbl hbA hS (show ¬ ((2 : Int32) < 0 ∨ 6 ≤ Int32.toNatClampNeg 2) by decide) dL_law_320 ?_
    refine tk_i x2 ex2 ?_
    refine lv_aload_n hx hb dL_law_321 rfl (lv_at hl 3 rfl) ?_
    refine lv_iload_n hx hb dL_law_322 rfl (lv_at hl 0 rfl) ?_
    refine lv_iconst (v := 3) hx hb dL_law_323 (by decide) ?_
    refine lv_iadd hx hb dL_law_324 ?_
    refine tk_i 3 (by decide) ?_
    refine va_sld hx hb hX hbl hbA hS (show ¬ ((3 : Int32) < 0 ∨ 6 ≤ Int32.toNatClampNeg 3) by decide) dL_law_325 ?_
    refine tk_i x3 ex3 ?_
    refine lv_aload_n hx hb dL_law_326 rfl (lv_at hl 3 rfl) ?_
    refine lv_iload_n hx hb dL_law_327 rfl (lv_at hl 0 rfl) ?_
    refine lv_iconst (v := 4) hx hb dL_law_328 (by decide) ?_
    refine lv_iadd hx hb dL_law_329 ?_
    refine tk_i 4 (by decide) ?_
    refine va_sld hx hb hX hbl hbA hS (show ¬ ((4 : Int32) < 0 ∨ 6 ≤ Int32.toNatClampNeg 4) by decide) dL_law_330 ?_
    refine tk_i x4 ex4 ?_
    have hPc : va_P (dC, dI) vwCl (mw b cy) _ := hP.sub [0, 1, 2, 3, 4, 5, 6, 7] rfl
    have hDc := hD.sub (ws' := mw b cy) [0, 1, 2, 3, 4, 5, 6, 7] (by decide) rfl
    have hFc := va_free (wc := mw b cy) hD hS hA [0, 1, 2, 3, 4, 5, 6, 7] rfl
    refine va_calli (va_runV (As := [.int x1, .int x2, .int x3, .int x4]) (rest := [.int (-1)]) ⟨hx, hb, hml, hown, hts⟩ (c_X12_call l dC dI cy b _ x1 x2 x3 x4) (cwV 4 hts g_L_law_X12_call_36 rfl rfl rfl (by decide +kernel) ⟨Nat.le_of_ble_eq_true rfl, Nat.le_of_ble_eq_true rfl⟩) (pv_ps hC hPc hDc (ci := 12) (q0 := 0) rfl rfl) rfl rfl hl.1 rfl (lv_room (Nat.le_of_ble_eq_true rfl)) dL_law_331 ⟨Nat.le_of_ble_eq_true rfl, Nat.le_of_ble_eq_true rfl⟩) hS (fun q _ h => hFc q h) hFc (fun r_ u t_ H1 locs ht hvm hw hB hz1 hk1 hS => ?_)
    obtain ⟨hP, hD⟩ := va_join (wr := []) (w1 := []) hP hD [0, 1, 2, 3, 4, 5, 6, 7] [] rfl rfl (by decide) (by decide) hk1 hFc va_P0 va_D0
    generalize H1 = H at hP hS ⊢
    have hP : va_P (dC, dI) vwCl ([]) H := hP
    have hD : va_D A ([]) := hD
    rcases hw with ⟨c196_, rfl⟩ | ⟨c197_, c198_, rfl⟩ | ⟨c199_, c200_, c201_, rfl⟩ | ⟨c202_, c203_, c204_, c205_, rfl⟩ | ⟨c206_, c207_, c208_, c209_, c210_, rfl⟩ | ⟨c211_, c212_, c213_, c214_, c215_, c216_, rfl⟩ | ⟨c217_, c218_, c219_, c220_, c221_, c222_, c223_, rfl⟩ | ⟨c224_, c225_, c226_, c227_, c228_, c229_, c230_, c231_, rfl⟩ | ⟨c232_, c233_, c234_, c235_, c236_, c237_, c238_, rfl⟩
    · skip
      exfalso
      have z0_ := tz_nlt_r c70_ (show (0 : Int32).toInt = 0 by decide)
      have z1_ := tz_nle_l c71_ (show (65536 : Int32).toInt = 65536 by decide)
      have z2_ := tz_lt_r c196_ (show (0 : Int32).toInt = 0 by decide)
      omega
    · skip
      exfalso
      have z0_ := tz_nlt_r c70_ (show (0 : Int32).toInt = 0 by decide)
      have z1_ := tz_nle_l c71_ (show (65536 : Int32).toInt = 65536 by decide)
      have z2_ := tz_le_l c198_ (show (65536 : Int32).toInt = 65536 by decide)
      omega
    · skip
      refine lv_icmp_eq (tgt := 983) hx hb dL_law_334 (by decide) (fun _ => ?_) (fun c9_ => absurd (by decide) c9_)
      refine lv_iinc (v := 6) (lv' := [(3, .int 6), (2, .ref (b 0)), (1, .ref (a 0)), (0, .ref sc)]) hx hb dL_law_983 hl (k := 0) rfl (by decide) (by decide) rfl (fun ls hl => ?_)
      refine lv_goto (tgt := 18) hx hb dL_law_986 (by decide) ?_
      refine lv_iload_n hx hb dL_law_18 rfl (lv_at hl 0 rfl) ?_
      refine lv_aload_n hx hb dL_law_19 rfl (lv_at hl 3 rfl) ?_
      refine va_slen hx hb hX hbl hbA hS dL_law_20 ?_
      refine tk_i 6 (by decide) ?_
      refine lv_bipush (v := 6) hx hb dL_law_21 (by decide) ?_
      refine lv_isub hx hb dL_law_23 ?_
      refine tk_i 0 (by decide) ?_
      refine lv_icmp_gt (tgt := 989) hx hb dL_law_24 (by decide) (fun _ => ?_) (fun c9_ => absurd (by decide) c9_)
      refine lv_iconst (v := 1) hx hb dL_law_989 (by decide) ?_
      refine va_forget (fun q hq => by have h := hS.2.2 q hq; rw [hAe] at h; exact h) ?_
      refine W.widen (k := 600000) (n := 7302249) (Nat.le_of_ble_eq_true rfl) (Nat.le_of_ble_eq_true rfl) ?_
      exact lw_ret hx hb hr hlocks dL_law_990
    · skip
      exfalso
      have z0_ := tz_lt_r c72_ (show (0 : Int32).toInt = 0 by decide)
      have z1_ := tz_nlt_r c204_ (show (0 : Int32).toInt = 0 by decide)
      omega
    · skip
      exfalso
      have z0_ := tz_lt_r c72_ (show (0 : Int32).toInt = 0 by decide)
      have z1_ := tz_nlt_r c208_ (show (0 : Int32).toInt = 0 by decide)
      omega
    · skip
      exfalso
      have z0_ := tz_lt_r c72_ (show (0 : Int32).toInt = 0 by decide)
      have z1_ := tz_nlt_r c213_ (show (0 : Int32).toInt = 0 by decide)
      omega
    · skip
      exfalso
      have z0_ := tz_lt_r c72_ (show (0 : Int32).toInt = 0 by decide)
      have z1_ := tz_nlt_r c219_ (show (0 : Int32).toInt = 0 by decide)
      omega
    · skip
      exfalso
      have z0_ := tz_lt_r c72_ (show (0 : Int32).toInt = 0 by decide)
      have z1_ := tz_nlt_r c226_ (show (0 : Int32).toInt = 0 by decide)
      omega
    · skip
      exfalso
      have z0_ := tz_lt_r c72_ (show (0 : Int32).toInt = 0 by decide)
      have z1_ := tz_nlt_r c234_ (show (0 : Int32).toInt = 0 by decide)
      omega
  · skip
    refine lv_aload_n hx hb dL_law_310 rfl (lv_at hl 1 rfl) ?_
    refine lv_aload_n hx hb dL_law_311 rfl (lv_at hl 3 rfl) ?_
    refine lv_iload_n hx hb dL_law_312 rfl (lv_at hl 0 rfl) ?_
    refine lv_iconst (v := 1) hx hb dL_law_313 (by decide) ?_
    refine lv_iadd hx hb dL_law_314 ?_
    refine tk_i 1 (by decide) ?_
    refine va_sld hx hb hX hbl hbA hS (show ¬ ((1 : Int32) < 0 ∨ 6 ≤ Int32.toNatClampNeg 1) by decide) dL_law_315 ?_
    refine tk_i x1 ex1 ?_
    refine lv_aload_n hx hb dL_law_316 rfl (lv_at hl 3 rfl) ?_
    refine lv_iload_n hx hb dL_law_317 rfl (lv_at hl 0 rfl) ?_
    refine lv_iconst (v := 2) hx hb dL_law_318 (by decide) ?_
    refine lv_iadd hx hb dL_law_319 ?_
    refine tk_i 2 (by decide) ?_
    refine va_sld hx hb hX hbl hbA hS (show ¬ ((2 : Int32) < 0 ∨ 6 ≤ Int32.toNatClampNeg 2) by decide) dL_law_320 ?_
    refine tk_i x2 ex2 ?_
    refine lv_aload_n hx hb dL_law_321 rfl (lv_at hl 3 rfl) ?_
    refine lv_iload_n hx hb dL_law_322 rfl (lv_at hl 0 rfl) ?_
    refine lv_iconst (v := 3) hx hb dL_law_323 (by decide) ?_
    refine lv_iadd hx hb dL_law_324 ?_
    refine tk_i 3 (by decide) ?_
    refine va_sld hx hb hX hbl hbA hS (show ¬ ((3 : Int32) < 0 ∨ 6 ≤ Int32.toNatClampNeg 3) by decide) dL_law_325 ?_
    refine tk_i x3 ex3 ?_
    refine lv_aload_n hx hb dL_law_326 rfl (lv_at hl 3 rfl) ?_
    refine lv_iload_n hx hb dL_law_327 rfl (lv_at hl 0 rfl) ?_
    refine lv_iconst (v := 4) hx hb dL_law_328 (by decide) ?_
    refine lv_iadd hx hb dL_law_329 ?_
    refine tk_i 4 (by decide) ?_
    refine va_sld hx hb hX hbl hbA hS (show ¬ ((4 : Int32) < 0 ∨ 6 ≤ Int32.toNatClampNeg 4) by decide) dL_law_330 ?_
    refine tk_i x4 ex4 ?_
    have hPc : va_P (dC, dI) vwCl (mw b cy) _ := hP.sub [0, 1, 2, 3, 4, 5, 6, 7] rfl
    have hDc := hD.sub (ws' := mw b cy) [0, 1, 2, 3, 4, 5, 6, 7] (by decide) rfl
    have hFc := va_free (wc := mw b cy) hD hS hA [0, 1, 2, 3, 4, 5, 6, 7] rfl
    refine va_calli (va_runV (As := [.int x1, .int x2, .int x3, .int x4]) (rest := [.int (-1)]) ⟨hx, hb, hml, hown, hts⟩ (c_X12_call l dC dI cy b _ x1 x2 x3 x4) (cwV 4 hts g_L_law_X12_call_36 rfl rfl rfl (by decide +kernel) ⟨Nat.le_of_ble_eq_true rfl, Nat.le_of_ble_eq_true rfl⟩) (pv_ps hC hPc hDc (ci := 12) (q0 := 0) rfl rfl) rfl rfl hl.1 rfl (lv_room (Nat.le_of_ble_eq_true rfl)) dL_law_331 ⟨Nat.le_of_ble_eq_true rfl, Nat.le_of_ble_eq_true rfl⟩) hS (fun q _ h => hFc q h) hFc (fun r_ u t_ H1 locs ht hvm hw hB hz1 hk1 hS => ?_)
    obtain ⟨hP, hD⟩ := va_join (wr := []) (w1 := []) hP hD [0, 1, 2, 3, 4, 5, 6, 7] [] rfl rfl (by decide) (by decide) hk1 hFc va_P0 va_D0
    generalize H1 = H at hP hS ⊢
    have hP : va_P (dC, dI) vwCl ([]) H := hP
    have hD : va_D A ([]) := hD
    rcases hw with ⟨c239_, rfl⟩ | ⟨c240_, c241_, rfl⟩ | ⟨c242_, c243_, c244_, rfl⟩ | ⟨c245_, c246_, c247_, c248_, rfl⟩ | ⟨c249_, c250_, c251_, c252_, c253_, rfl⟩ | ⟨c254_, c255_, c256_, c257_, c258_, c259_, rfl⟩ | ⟨c260_, c261_, c262_, c263_, c264_, c265_, c266_, rfl⟩ | ⟨c267_, c268_, c269_, c270_, c271_, c272_, c273_, c274_, rfl⟩ | ⟨c275_, c276_, c277_, c278_, c279_, c280_, c281_, rfl⟩
    · skip
      exfalso
      have z0_ := tz_nlt_r c73_ (show (0 : Int32).toInt = 0 by decide)
      have z1_ := tz_nle_l c74_ (show (65536 : Int32).toInt = 65536 by decide)
      have z2_ := tz_lt_r c239_ (show (0 : Int32).toInt = 0 by decide)
      omega
    · skip
      exfalso
      have z0_ := tz_nlt_r c73_ (show (0 : Int32).toInt = 0 by decide)
      have z1_ := tz_nle_l c74_ (show (65536 : Int32).toInt = 65536 by decide)
      have z2_ := tz_le_l c241_ (show (65536 : Int32).toInt = 65536 by decide)
      omega
    · skip
      exfalso
      have z0_ := tz_nlt_r c75_ (show (0 : Int32).toInt = 0 by decide)
      have z1_ := tz_le_l c76_ (show (65536 : Int32).toInt = 65536 by decide)
      have z2_ := tz_lt_r c244_ (show (0 : Int32).toInt = 0 by decide)
      omega
    · skip
      refine lv_icmp_eq (tgt := 983) hx hb dL_law_334 (by decide) (fun _ => ?_) (fun c9_ => absurd (by decide) c9_)
      refine lv_iinc (v := 6) (lv' := [(3, .int 6), (2, .ref (b 0)), (1, .ref (a 0)), (0, .ref sc)]) hx hb dL_law_983 hl (k := 0) rfl (by decide) (by decide) rfl (fun ls hl => ?_)
      refine lv_goto (tgt := 18) hx hb dL_law_986 (by decide) ?_
      refine lv_iload_n hx hb dL_law_18 rfl (lv_at hl 0 rfl) ?_
      refine lv_aload_n hx hb dL_law_19 rfl (lv_at hl 3 rfl) ?_
      refine va_slen hx hb hX hbl hbA hS dL_law_20 ?_
      refine tk_i 6 (by decide) ?_
      refine lv_bipush (v := 6) hx hb dL_law_21 (by decide) ?_
      refine lv_isub hx hb dL_law_23 ?_
      refine tk_i 0 (by decide) ?_
      refine lv_icmp_gt (tgt := 989) hx hb dL_law_24 (by decide) (fun _ => ?_) (fun c9_ => absurd (by decide) c9_)
      refine lv_iconst (v := 1) hx hb dL_law_989 (by decide) ?_
      refine va_forget (fun q hq => by have h := hS.2.2 q hq; rw [hAe] at h; exact h) ?_
      refine W.widen (k := 600000) (n := 7302249) (Nat.le_of_ble_eq_true rfl) (Nat.le_of_ble_eq_true rfl) ?_
      exact lw_ret hx hb hr hlocks dL_law_990
    · skip
      exfalso
      have z0_ := tz_nlt_r c75_ (show (0 : Int32).toInt = 0 by decide)
      have z1_ := tz_le_l c76_ (show (65536 : Int32).toInt = 65536 by decide)
      have z2_ := tz_nle_l c252_ (show (65536 : Int32).toInt = 65536 by decide)
      omega
    · skip
      exfalso
      have z0_ := tz_nlt_r c75_ (show (0 : Int32).toInt = 0 by decide)
      have z1_ := tz_le_l c76_ (show (65536 : Int32).toInt = 65536 by decide)
      have z2_ := tz_nle_l c257_ (show (65536 : Int32).toInt = 65536 by decide)
      omega
    · skip
      exfalso
      have z0_ := tz_nlt_r c75_ (show (0 : Int32).toInt = 0 by decide)
      have z1_ := tz_le_l c76_ (show (65536 : Int32).toInt = 65536 by decide)
      have z2_ := tz_nle_l c263_ (show (65536 : Int32).toInt = 65536 by decide)
      omega
    · skip
      exfalso
      have z0_ := tz_nlt_r c75_ (show (0 : Int32).toInt = 0 by decide)
      have z1_ := tz_le_l c76_ (show (65536 : Int32).toInt = 65536 by decide)
      have z2_ := tz_nle_l c270_ (show (65536 : Int32).toInt = 65536 by decide)
      omega
    · skip
      exfalso
      have z0_ := tz_nlt_r c75_ (show (0 : Int32).toInt = 0 by decide)
      have z1_ := tz_le_l c76_ (show (65536 : Int32).toInt = 65536 by decide)
      have z2_ := tz_nle_l c278_ (show (65536 : Int32).toInt = 65536 by decide)
      omega
  · skip
    refine lv_aload_n hx hb dL_law_310 rfl (lv_at hl 1 rfl) ?_
    refine lv_aload_n hx hb dL_law_311 rfl (lv_at hl 3 rfl) ?_
    refine lv_iload_n hx hb dL_law_312 rfl (lv_at hl 0 rfl) ?_
    refine lv_iconst (v := 1) hx hb dL_law_313 (by decide) ?_
    refine lv_iadd hx hb dL_law_314 ?_
    refine tk_i 1 (by decide) ?_
    refine va_sld hx hb hX hbl hbA hS (show ¬ ((1 : Int32) < 0 ∨ 6 ≤ Int32.toNatClampNeg 1) by decide) dL_law_315 ?_
    refine tk_i x1 ex1 ?_
    refine lv_aload_n hx hb dL_law_316 rfl (lv_at hl 3 rfl) ?_
    refine lv_iload_n hx hb dL_law_317 rfl (lv_at hl 0 rfl) ?_
    refine lv_iconst (v := 2) hx hb dL_law_318 (by decide) ?_
    refine lv_iadd hx hb dL_law_319 ?_
    refine tk_i 2 (by decide) ?_
    refine va_sld hx hb hX hbl hbA hS (show ¬ ((2 : Int32) < 0 ∨ 6 ≤ Int32.toNatClampNeg 2) by decide) dL_law_320 ?_
    refine tk_i x2 ex2 ?_
    refine lv_aload_n hx hb dL_law_321 rfl (lv_at hl 3 rfl) ?_
    refine lv_iload_n hx hb dL_law_322 rfl (lv_at hl 0 rfl) ?_
    refine lv_iconst (v := 3) hx hb dL_law_323 (by decide) ?_
    refine lv_iadd hx hb dL_law_324 ?_
    refine tk_i 3 (by decide) ?_
    refine va_sld hx hb hX hbl hbA hS (show ¬ ((3 : Int32) < 0 ∨ 6 ≤ Int32.toNatClampNeg 3) by decide) dL_law_325 ?_
    refine tk_i x3 ex3 ?_
    refine lv_aload_n hx hb dL_law_326 rfl (lv_at hl 3 rfl) ?_
    refine lv_iload_n hx hb dL_law_327 rfl (lv_at hl 0 rfl) ?_
    refine lv_iconst (v := 4) hx hb dL_law_328 (by decide) ?_
    refine lv_iadd hx hb dL_law_329 ?_
    refine tk_i 4 (by decide) ?_
    refine va_sld hx hb hX hbl hbA hS (show ¬ ((4 : Int32) < 0 ∨ 6 ≤ Int32.toNatClampNeg 4) by decide) dL_law_330 ?_
    refine tk_i x4 ex4 ?_
    have hPc : va_P (dC, dI) vwCl (mw b cy) _ := hP.sub [0, 1, 2, 3, 4, 5, 6, 7] rfl
    have hDc := hD.sub (ws' := mw b cy) [0, 1, 2, 3, 4, 5, 6, 7] (by decide) rfl
    have hFc := va_free (wc := mw b cy) hD hS hA [0, 1, 2, 3, 4, 5, 6, 7] rfl
    refine va_calli (va_runV (As := [.int x1, .int x2, .int x3, .int x4]) (rest := [.int (-1)]) ⟨hx, hb, hml, hown, hts⟩ (c_X12_call l dC dI cy b _ x1 x2 x3 x4) (cwV 4 hts g_L_law_X12_call_36 rfl rfl rfl (by decide +kernel) ⟨Nat.le_of_ble_eq_true rfl, Nat.le_of_ble_eq_true rfl⟩) (pv_ps hC hPc hDc (ci := 12) (q0 := 0) rfl rfl) rfl rfl hl.1 rfl (lv_room (Nat.le_of_ble_eq_true rfl)) dL_law_331 ⟨Nat.le_of_ble_eq_true rfl, Nat.le_of_ble_eq_true rfl⟩) hS (fun q _ h => hFc q h) hFc (fun r_ u t_ H1 locs ht hvm hw hB hz1 hk1 hS => ?_)
    obtain ⟨hP, hD⟩ := va_join (wr := []) (w1 := []) hP hD [0, 1, 2, 3, 4, 5, 6, 7] [] rfl rfl (by decide) (by decide) hk1 hFc va_P0 va_D0
    generalize H1 = H at hP hS ⊢
    have hP : va_P (dC, dI) vwCl ([]) H := hP
    have hD : va_D A ([]) := hD
    rcases hw with ⟨c282_, rfl⟩ | ⟨c283_, c284_, rfl⟩ | ⟨c285_, c286_, c287_, rfl⟩ | ⟨c288_, c289_, c290_, c291_, rfl⟩ | ⟨c292_, c293_, c294_, c295_, c296_, rfl⟩ | ⟨c297_, c298_, c299_, c300_, c301_, c302_, rfl⟩ | ⟨c303_, c304_, c305_, c306_, c307_, c308_, c309_, rfl⟩ | ⟨c310_, c311_, c312_, c313_, c314_, c315_, c316_, c317_, rfl⟩ | ⟨c318_, c319_, c320_, c321_, c322_, c323_, c324_, rfl⟩
    · skip
      exfalso
      have z0_ := tz_nlt_r c77_ (show (0 : Int32).toInt = 0 by decide)
      have z1_ := tz_nle_l c78_ (show (65536 : Int32).toInt = 65536 by decide)
      have z2_ := tz_lt_r c282_ (show (0 : Int32).toInt = 0 by decide)
      omega
    · skip
      exfalso
      have z0_ := tz_nlt_r c77_ (show (0 : Int32).toInt = 0 by decide)
      have z1_ := tz_nle_l c78_ (show (65536 : Int32).toInt = 65536 by decide)
      have z2_ := tz_le_l c284_ (show (65536 : Int32).toInt = 65536 by decide)
      omega
    · skip
      exfalso
      have z0_ := tz_nlt_r c79_ (show (0 : Int32).toInt = 0 by decide)
      have z1_ := tz_nle_l c80_ (show (65536 : Int32).toInt = 65536 by decide)
      have z2_ := tz_lt_r c287_ (show (0 : Int32).toInt = 0 by decide)
      omega
    · skip
      exfalso
      have z0_ := tz_nlt_r c79_ (show (0 : Int32).toInt = 0 by decide)
      have z1_ := tz_nle_l c80_ (show (65536 : Int32).toInt = 65536 by decide)
      have z2_ := tz_le_l c291_ (show (65536 : Int32).toInt = 65536 by decide)
      omega
    · skip
      refine lv_icmp_eq (tgt := 983) hx hb dL_law_334 (by decide) (fun _ => ?_) (fun c9_ => absurd (by decide) c9_)
      refine lv_iinc (v := 6) (lv' := [(3, .int 6), (2, .ref (b 0)), (1, .ref (a 0)), (0, .ref sc)]) hx hb dL_law_983 hl (k := 0) rfl (by decide) (by decide) rfl (fun ls hl => ?_)
      refine lv_goto (tgt := 18) hx hb dL_law_986 (by decide) ?_
      refine lv_iload_n hx hb dL_law_18 rfl (lv_at hl 0 rfl) ?_
      refine lv_aload_n hx hb dL_law_19 rfl (lv_at hl 3 rfl) ?_
      refine va_slen hx hb hX hbl hbA hS dL_law_20 ?_
      refine tk_i 6 (by decide) ?_
      refine lv_bipush (v := 6) hx hb dL_law_21 (by decide) ?_
      refine lv_isub hx hb dL_law_23 ?_
      refine tk_i 0 (by decide) ?_
      refine lv_icmp_gt (tgt := 989) hx hb dL_law_24 (by decide) (fun _ => ?_) (fun c9_ => absurd (by decide) c9_)
      refine lv_iconst (v := 1) hx hb dL_law_989 (by decide) ?_
      refine va_forget (fun q hq => by have h := hS.2.2 q hq; rw [hAe] at h; exact h) ?_
      refine W.widen (k := 600000) (n := 7302249) (Nat.le_of_ble_eq_true rfl) (Nat.le_of_ble_eq_true rfl) ?_
      exact lw_ret hx hb hr hlocks dL_law_990
    · skip
      exfalso
      have z0_ := tz_lt_r c81_ (show (0 : Int32).toInt = 0 by decide)
      have z1_ := tz_nlt_r c301_ (show (0 : Int32).toInt = 0 by decide)
      omega
    · skip
      exfalso
      have z0_ := tz_lt_r c81_ (show (0 : Int32).toInt = 0 by decide)
      have z1_ := tz_nlt_r c307_ (show (0 : Int32).toInt = 0 by decide)
      omega
    · skip
      exfalso
      have z0_ := tz_lt_r c81_ (show (0 : Int32).toInt = 0 by decide)
      have z1_ := tz_nlt_r c314_ (show (0 : Int32).toInt = 0 by decide)
      omega
    · skip
      exfalso
      have z0_ := tz_lt_r c81_ (show (0 : Int32).toInt = 0 by decide)
      have z1_ := tz_nlt_r c322_ (show (0 : Int32).toInt = 0 by decide)
      omega
  · skip
    refine lv_aload_n hx hb dL_law_310 rfl (lv_at hl 1 rfl) ?_
    refine lv_aload_n hx hb dL_law_311 rfl (lv_at hl 3 rfl) ?_
    refine lv_iload_n hx hb dL_law_312 rfl (lv_at hl 0 rfl) ?_
    refine lv_iconst (v := 1) hx hb dL_law_313 (by decide) ?_
    refine lv_iadd hx hb dL_law_314 ?_
    refine tk_i 1 (by decide) ?_
    refine va_sld hx hb hX hbl hbA hS (show ¬ ((1 : Int32) < 0 ∨ 6 ≤ Int32.toNatClampNeg 1) by decide) dL_law_315 ?_
    refine tk_i x1 ex1 ?_
    refine lv_aload_n hx hb dL_law_316 rfl (lv_at hl 3 rfl) ?_
    refine lv_iload_n hx hb dL_law_317 rfl (lv_at hl 0 rfl) ?_
    refine lv_iconst (v := 2) hx hb dL_law_318 (by decide) ?_
    refine lv_iadd hx hb dL_law_319 ?_
    refine tk_i 2 (by decide) ?_
    refine va_sld hx hb hX hbl hbA hS (show ¬ ((2 : Int32) < 0 ∨ 6 ≤ Int32.toNatClampNeg 2) by decide) dL_law_320 ?_
    refine tk_i x2 ex2 ?_
    refine lv_aload_n hx hb dL_law_321 rfl (lv_at hl 3 rfl) ?_
    refine lv_iload_n hx hb dL_law_322 rfl (lv_at hl 0 rfl) ?_
    refine lv_iconst (v := 3) hx hb dL_law_323 (by decide) ?_
    refine lv_iadd hx hb dL_law_324 ?_
    refine tk_i 3 (by decide) ?_
    refine va_sld hx hb hX hbl hbA hS (show ¬ ((3 : Int32) < 0 ∨ 6 ≤ Int32.toNatClampNeg 3) by decide) dL_law_325 ?_
    refine tk_i x3 ex3 ?_
    refine lv_aload_n hx hb dL_law_326 rfl (lv_at hl 3 rfl) ?_
    refine lv_iload_n hx hb dL_law_327 rfl (lv_at hl 0 rfl) ?_
    refine lv_iconst (v := 4) hx hb dL_law_328 (by decide) ?_
    refine lv_iadd hx hb dL_law_329 ?_
    refine tk_i 4 (by decide) ?_
    refine va_sld hx hb hX hbl hbA hS (show ¬ ((4 : Int32) < 0 ∨ 6 ≤ Int32.toNatClampNeg 4) by decide) dL_law_330 ?_
    refine tk_i x4 ex4 ?_
    have hPc : va_P (dC, dI) vwCl (mw b cy) _ := hP.sub [0, 1, 2, 3, 4, 5, 6, 7] rfl
    have hDc := hD.sub (ws' := mw b cy) [0, 1, 2, 3, 4, 5, 6, 7] (by decide) rfl
    have hFc := va_free (wc := mw b cy) hD hS hA [0, 1, 2, 3, 4, 5, 6, 7] rfl
    refine va_calli (va_runV (As := [.int x1, .int x2, .int x3, .int x4]) (rest := [.int (-1)]) ⟨hx, hb, hml, hown, hts⟩ (c_X12_call l dC dI cy b _ x1 x2 x3 x4) (cwV 4 hts g_L_law_X12_call_36 rfl rfl rfl (by decide +kernel) ⟨Nat.le_of_ble_eq_true rfl, Nat.le_of_ble_eq_true rfl⟩) (pv_ps hC hPc hDc (ci := 12) (q0 := 0) rfl rfl) rfl rfl hl.1 rfl (lv_room (Nat.le_of_ble_eq_true rfl)) dL_law_331 ⟨Nat.le_of_ble_eq_true rfl, Nat.le_of_ble_eq_true rfl⟩) hS (fun q _ h => hFc q h) hFc (fun r_ u t_ H1 locs ht hvm hw hB hz1 hk1 hS => ?_)
    obtain ⟨hP, hD⟩ := va_join (wr := []) (w1 := []) hP hD [0, 1, 2, 3, 4, 5, 6, 7] [] rfl rfl (by decide) (by decide) hk1 hFc va_P0 va_D0
    generalize H1 = H at hP hS ⊢
    have hP : va_P (dC, dI) vwCl ([]) H := hP
    have hD : va_D A ([]) := hD
    rcases hw with ⟨c325_, rfl⟩ | ⟨c326_, c327_, rfl⟩ | ⟨c328_, c329_, c330_, rfl⟩ | ⟨c331_, c332_, c333_, c334_, rfl⟩ | ⟨c335_, c336_, c337_, c338_, c339_, rfl⟩ | ⟨c340_, c341_, c342_, c343_, c344_, c345_, rfl⟩ | ⟨c346_, c347_, c348_, c349_, c350_, c351_, c352_, rfl⟩ | ⟨c353_, c354_, c355_, c356_, c357_, c358_, c359_, c360_, rfl⟩ | ⟨c361_, c362_, c363_, c364_, c365_, c366_, c367_, rfl⟩
    · skip
      exfalso
      have z0_ := tz_nlt_r c82_ (show (0 : Int32).toInt = 0 by decide)
      have z1_ := tz_nle_l c83_ (show (65536 : Int32).toInt = 65536 by decide)
      have z2_ := tz_lt_r c325_ (show (0 : Int32).toInt = 0 by decide)
      omega
    · skip
      exfalso
      have z0_ := tz_nlt_r c82_ (show (0 : Int32).toInt = 0 by decide)
      have z1_ := tz_nle_l c83_ (show (65536 : Int32).toInt = 65536 by decide)
      have z2_ := tz_le_l c327_ (show (65536 : Int32).toInt = 65536 by decide)
      omega
    · skip
      exfalso
      have z0_ := tz_nlt_r c84_ (show (0 : Int32).toInt = 0 by decide)
      have z1_ := tz_nle_l c85_ (show (65536 : Int32).toInt = 65536 by decide)
      have z2_ := tz_lt_r c330_ (show (0 : Int32).toInt = 0 by decide)
      omega
    · skip
      exfalso
      have z0_ := tz_nlt_r c84_ (show (0 : Int32).toInt = 0 by decide)
      have z1_ := tz_nle_l c85_ (show (65536 : Int32).toInt = 65536 by decide)
      have z2_ := tz_le_l c334_ (show (65536 : Int32).toInt = 65536 by decide)
      omega
    · skip
      exfalso
      have z0_ := tz_nlt_r c86_ (show (0 : Int32).toInt = 0 by decide)
      have z1_ := tz_le_l c87_ (show (65536 : Int32).toInt = 65536 by decide)
      have z2_ := tz_lt_r c339_ (show (0 : Int32).toInt = 0 by decide)
      omega
    · skip
      refine lv_icmp_eq (tgt := 983) hx hb dL_law_334 (by decide) (fun _ => ?_) (fun c9_ => absurd (by decide) c9_)
      refine lv_iinc (v := 6) (lv' := [(3, .int 6), (2, .ref (b 0)), (1, .ref (a 0)), (0, .ref sc)]) hx hb dL_law_983 hl (k := 0) rfl (by decide) (by decide) rfl (fun ls hl => ?_)
      refine lv_goto (tgt := 18) hx hb dL_law_986 (by decide) ?_
      refine lv_iload_n hx hb dL_law_18 rfl (lv_at hl 0 rfl) ?_
      refine lv_aload_n hx hb dL_law_19 rfl (lv_at hl 3 rfl) ?_
      refine va_slen hx hb hX hbl hbA hS dL_law_20 ?_
      refine tk_i 6 (by decide) ?_
      refine lv_bipush (v := 6) hx hb dL_law_21 (by decide) ?_
      refine lv_isub hx hb dL_law_23 ?_
      refine tk_i 0 (by decide) ?_
      refine lv_icmp_gt (tgt := 989) hx hb dL_law_24 (by decide) (fun _ => ?_) (fun c9_ => absurd (by decide) c9_)
      refine lv_iconst (v := 1) hx hb dL_law_989 (by decide) ?_
      refine va_forget (fun q hq => by have h := hS.2.2 q hq; rw [hAe] at h; exact h) ?_
      refine W.widen (k := 600000) (n := 7302249) (Nat.le_of_ble_eq_true rfl) (Nat.le_of_ble_eq_true rfl) ?_
      exact lw_ret hx hb hr hlocks dL_law_990
    · skip
      exfalso
      have z0_ := tz_nlt_r c86_ (show (0 : Int32).toInt = 0 by decide)
      have z1_ := tz_le_l c87_ (show (65536 : Int32).toInt = 65536 by decide)
      have z2_ := tz_nle_l c351_ (show (65536 : Int32).toInt = 65536 by decide)
      omega
    · skip
      exfalso
      have z0_ := tz_nlt_r c86_ (show (0 : Int32).toInt = 0 by decide)
      have z1_ := tz_le_l c87_ (show (65536 : Int32).toInt = 65536 by decide)
      have z2_ := tz_nle_l c358_ (show (65536 : Int32).toInt = 65536 by decide)
      omega
    · skip
      exfalso
      have z0_ := tz_nlt_r c86_ (show (0 : Int32).toInt = 0 by decide)
      have z1_ := tz_le_l c87_ (show (65536 : Int32).toInt = 65536 by decide)
      have z2_ := tz_nle_l c366_ (show (65536 : Int32).toInt = 65536 by decide)
      omega
  · skip
    refine lv_aload_n hx hb dL_law_310 rfl (lv_at hl 1 rfl) ?_
    refine lv_aload_n hx hb dL_law_311 rfl (lv_at hl 3 rfl) ?_
    refine lv_iload_n hx hb dL_law_312 rfl (lv_at hl 0 rfl) ?_
    refine lv_iconst (v := 1) hx hb dL_law_313 (by decide) ?_
    refine lv_iadd hx hb dL_law_314 ?_
    refine tk_i 1 (by decide) ?_
    refine va_sld hx hb hX hbl hbA hS (show ¬ ((1 : Int32) < 0 ∨ 6 ≤ Int32.toNatClampNeg 1) by decide) dL_law_315 ?_
    refine tk_i x1 ex1 ?_
    refine lv_aload_n hx hb dL_law_316 rfl (lv_at hl 3 rfl) ?_
    refine lv_iload_n hx hb dL_law_317 rfl (lv_at hl 0 rfl) ?_
    refine lv_iconst (v := 2) hx hb dL_law_318 (by decide) ?_
    refine lv_iadd hx hb dL_law_319 ?_
    refine tk_i 2 (by decide) ?_
    refine va_sld hx hb hX hbl hbA hS (show ¬ ((2 : Int32) < 0 ∨ 6 ≤ Int32.toNatClampNeg 2) by decide) dL_law_320 ?_
    refine tk_i x2 ex2 ?_
    refine lv_aload_n hx hb dL_law_321 rfl (lv_at hl 3 rfl) ?_
    refine lv_iload_n hx hb dL_law_322 rfl (lv_at hl 0 rfl) ?_
    refine lv_iconst (v := 3) hx hb dL_law_323 (by decide) ?_
    refine lv_iadd hx hb dL_law_324 ?_
    refine tk_i 3 (by decide) ?_
    refine va_sld hx hb hX hbl hbA hS (show ¬ ((3 : Int32) < 0 ∨ 6 ≤ Int32.toNatClampNeg 3) by decide) dL_law_325 ?_
    refine tk_i x3 ex3 ?_
    refine lv_aload_n hx hb dL_law_326 rfl (lv_at hl 3 rfl) ?_
    refine lv_iload_n hx hb dL_law_327 rfl (lv_at hl 0 rfl) ?_
    refine lv_iconst (v := 4) hx hb dL_law_328 (by decide) ?_
    refine lv_iadd hx hb dL_law_329 ?_
    refine tk_i 4 (by decide) ?_
    refine va_sld hx hb hX hbl hbA hS (show ¬ ((4 : Int32) < 0 ∨ 6 ≤ Int32.toNatClampNeg 4) by decide) dL_law_330 ?_
    refine tk_i x4 ex4 ?_
    have hPc : va_P (dC, dI) vwCl (mw b cy) _ := hP.sub [0, 1, 2, 3, 4, 5, 6, 7] rfl
    have hDc := hD.sub (ws' := mw b cy) [0, 1, 2, 3, 4, 5, 6, 7] (by decide) rfl
    have hFc := va_free (wc := mw b cy) hD hS hA [0, 1, 2, 3, 4, 5, 6, 7] rfl
    refine va_calli (va_runV (As := [.int x1, .int x2, .int x3, .int x4]) (rest := [.int (-2)]) ⟨hx, hb, hml, hown, hts⟩ (c_X12_call l dC dI cy b _ x1 x2 x3 x4) (cwV 4 hts g_L_law_X12_call_36 rfl rfl rfl (by decide +kernel) ⟨Nat.le_of_ble_eq_true rfl, Nat.le_of_ble_eq_true rfl⟩) (pv_ps hC hPc hDc (ci := 12) (q0 := 0) rfl rfl) rfl rfl hl.1 rfl (lv_room (Nat.le_of_ble_eq_true rfl)) dL_law_331 ⟨Nat.le_of_ble_eq_true rfl, Nat.le_of_ble_eq_true rfl⟩) hS (fun q _ h => hFc q h) hFc (fun r_ u t_ H1 locs ht hvm hw hB hz1 hk1 hS => ?_)
    obtain ⟨hP, hD⟩ := va_join (wr := []) (w1 := []) hP hD [0, 1, 2, 3, 4, 5, 6, 7] [] rfl rfl (by decide) (by decide) hk1 hFc va_P0 va_D0
    generalize H1 = H at hP hS ⊢
    have hP : va_P (dC, dI) vwCl ([]) H := hP
    have hD : va_D A ([]) := hD
    rcases hw with ⟨c368_, rfl⟩ | ⟨c369_, c370_, rfl⟩ | ⟨c371_, c372_, c373_, rfl⟩ | ⟨c374_, c375_, c376_, c377_, rfl⟩ | ⟨c378_, c379_, c380_, c381_, c382_, rfl⟩ | ⟨c383_, c384_, c385_, c386_, c387_, c388_, rfl⟩ | ⟨c389_, c390_, c391_, c392_, c393_, c394_, c395_, rfl⟩ | ⟨c396_, c397_, c398_, c399_, c400_, c401_, c402_, c403_, rfl⟩ | ⟨c404_, c405_, c406_, c407_, c408_, c409_, c410_, rfl⟩
    · skip
      exfalso
      have z0_ := tz_nlt_r c88_ (show (0 : Int32).toInt = 0 by decide)
      have z1_ := tz_nle_l c89_ (show (65536 : Int32).toInt = 65536 by decide)
      have z2_ := tz_lt_r c368_ (show (0 : Int32).toInt = 0 by decide)
      omega
    · skip
      exfalso
      have z0_ := tz_nlt_r c88_ (show (0 : Int32).toInt = 0 by decide)
      have z1_ := tz_nle_l c89_ (show (65536 : Int32).toInt = 65536 by decide)
      have z2_ := tz_le_l c370_ (show (65536 : Int32).toInt = 65536 by decide)
      omega
    · skip
      exfalso
      have z0_ := tz_nlt_r c90_ (show (0 : Int32).toInt = 0 by decide)
      have z1_ := tz_nle_l c91_ (show (65536 : Int32).toInt = 65536 by decide)
      have z2_ := tz_lt_r c373_ (show (0 : Int32).toInt = 0 by decide)
      omega
    · skip
      exfalso
      have z0_ := tz_nlt_r c90_ (show (0 : Int32).toInt = 0 by decide)
      have z1_ := tz_nle_l c91_ (show (65536 : Int32).toInt = 65536 by decide)
      have z2_ := tz_le_l c377_ (show (65536 : Int32).toInt = 65536 by decide)
      omega
    · skip
      exfalso
      have z0_ := tz_nlt_r c92_ (show (0 : Int32).toInt = 0 by decide)
      have z1_ := tz_nle_l c93_ (show (65536 : Int32).toInt = 65536 by decide)
      have z2_ := tz_lt_r c382_ (show (0 : Int32).toInt = 0 by decide)
      omega
    · skip
      exfalso
      have z0_ := tz_nlt_r c92_ (show (0 : Int32).toInt = 0 by decide)
      have z1_ := tz_nle_l c93_ (show (65536 : Int32).toInt = 65536 by decide)
      have z2_ := tz_le_l c388_ (show (65536 : Int32).toInt = 65536 by decide)
      omega
    · skip
      refine lv_icmp_eq (tgt := 983) hx hb dL_law_334 (by decide) (fun _ => ?_) (fun c9_ => absurd (by decide) c9_)
      refine lv_iinc (v := 6) (lv' := [(3, .int 6), (2, .ref (b 0)), (1, .ref (a 0)), (0, .ref sc)]) hx hb dL_law_983 hl (k := 0) rfl (by decide) (by decide) rfl (fun ls hl => ?_)
      refine lv_goto (tgt := 18) hx hb dL_law_986 (by decide) ?_
      refine lv_iload_n hx hb dL_law_18 rfl (lv_at hl 0 rfl) ?_
      refine lv_aload_n hx hb dL_law_19 rfl (lv_at hl 3 rfl) ?_
      refine va_slen hx hb hX hbl hbA hS dL_law_20 ?_
      refine tk_i 6 (by decide) ?_
      refine lv_bipush (v := 6) hx hb dL_law_21 (by decide) ?_
      refine lv_isub hx hb dL_law_23 ?_
      refine tk_i 0 (by decide) ?_
      refine lv_icmp_gt (tgt := 989) hx hb dL_law_24 (by decide) (fun _ => ?_) (fun c9_ => absurd (by decide) c9_)
      refine lv_iconst (v := 1) hx hb dL_law_989 (by decide) ?_
      refine va_forget (fun q hq => by have h := hS.2.2 q hq; rw [hAe] at h; exact h) ?_
      refine W.widen (k := 600000) (n := 7302249) (Nat.le_of_ble_eq_true rfl) (Nat.le_of_ble_eq_true rfl) ?_
      exact lw_ret hx hb hr hlocks dL_law_990
    · skip
      exfalso
      have z0_ := tz_lt_r c94_ (show (0 : Int32).toInt = 0 by decide)
      have z1_ := tz_nlt_r c402_ (show (0 : Int32).toInt = 0 by decide)
      omega
    · skip
      exfalso
      have z0_ := tz_lt_r c94_ (show (0 : Int32).toInt = 0 by decide)
      have z1_ := tz_eq_r c410_ (show (0 : Int32).toInt = 0 by decide)
      omega
  · skip
    refine lv_aload_n hx hb dL_law_310 rfl (lv_at hl 1 rfl) ?_
    refine lv_aload_n hx hb dL_law_311 rfl (lv_at hl 3 rfl) ?_
    refine lv_iload_n hx hb dL_law_312 rfl (lv_at hl 0 rfl) ?_
    refine lv_iconst (v := 1) hx hb dL_law_313 (by decide) ?_
    refine lv_iadd hx hb dL_law_314 ?_
    refine tk_i 1 (by decide) ?_
    refine va_sld hx hb hX hbl hbA hS (show ¬ ((1 : Int32) < 0 ∨ 6 ≤ Int32.toNatClampNeg 1) by decide) dL_law_315 ?_
    refine tk_i x1 ex1 ?_
    refine lv_aload_n hx hb dL_law_316 rfl (lv_at hl 3 rfl) ?_
    refine lv_iload_n hx hb dL_law_317 rfl (lv_at hl 0 rfl) ?_
    refine lv_iconst (v := 2) hx hb dL_law_318 (by decide) ?_
    refine lv_iadd hx hb dL_law_319 ?_
    refine tk_i 2 (by decide) ?_
    refine va_sld hx hb hX hbl hbA hS (show ¬ ((2 : Int32) < 0 ∨ 6 ≤ Int32.toNatClampNeg 2) by decide) dL_law_320 ?_
    refine tk_i x2 ex2 ?_
    refine lv_aload_n hx hb dL_law_321 rfl (lv_at hl 3 rfl) ?_
    refine lv_iload_n hx hb dL_law_322 rfl (lv_at hl 0 rfl) ?_
    refine lv_iconst (v := 3) hx hb dL_law_323 (by decide) ?_
    refine lv_iadd hx hb dL_law_324 ?_
    refine tk_i 3 (by decide) ?_
    refine va_sld hx hb hX hbl hbA hS (show ¬ ((3 : Int32) < 0 ∨ 6 ≤ Int32.toNatClampNeg 3) by decide) dL_law_325 ?_
    refine tk_i x3 ex3 ?_
    refine lv_aload_n hx hb dL_law_326 rfl (lv_at hl 3 rfl) ?_
    refine lv_iload_n hx hb dL_law_327 rfl (lv_at hl 0 rfl) ?_
    refine lv_iconst (v := 4) hx hb dL_law_328 (by decide) ?_
    refine lv_iadd hx hb dL_law_329 ?_
    refine tk_i 4 (by decide) ?_
    refine va_sld hx hb hX hbl hbA hS (show ¬ ((4 : Int32) < 0 ∨ 6 ≤ Int32.toNatClampNeg 4) by decide) dL_law_330 ?_
    refine tk_i x4 ex4 ?_
    have hPc : va_P (dC, dI) vwCl (mw b cy) _ := hP.sub [0, 1, 2, 3, 4, 5, 6, 7] rfl
    have hDc := hD.sub (ws' := mw b cy) [0, 1, 2, 3, 4, 5, 6, 7] (by decide) rfl
    have hFc := va_free (wc := mw b cy) hD hS hA [0, 1, 2, 3, 4, 5, 6, 7] rfl
    refine va_calli (va_runV (As := [.int x1, .int x2, .int x3, .int x4]) (rest := [.int (-2)]) ⟨hx, hb, hml, hown, hts⟩ (c_X12_call l dC dI cy b _ x1 x2 x3 x4) (cwV 4 hts g_L_law_X12_call_36 rfl rfl rfl (by decide +kernel) ⟨Nat.le_of_ble_eq_true rfl, Nat.le_of_ble_eq_true rfl⟩) (pv_ps hC hPc hDc (ci := 12) (q0 := 0) rfl rfl) rfl rfl hl.1 rfl (lv_room (Nat.le_of_ble_eq_true rfl)) dL_law_331 ⟨Nat.le_of_ble_eq_true rfl, Nat.le_of_ble_eq_true rfl⟩) hS (fun q _ h => hFc q h) hFc (fun r_ u t_ H1 locs ht hvm hw hB hz1 hk1 hS => ?_)
    obtain ⟨hP, hD⟩ := va_join (wr := []) (w1 := []) hP hD [0, 1, 2, 3, 4, 5, 6, 7] [] rfl rfl (by decide) (by decide) hk1 hFc va_P0 va_D0
    generalize H1 = H at hP hS ⊢
    have hP : va_P (dC, dI) vwCl ([]) H := hP
    have hD : va_D A ([]) := hD
    rcases hw with ⟨c411_, rfl⟩ | ⟨c412_, c413_, rfl⟩ | ⟨c414_, c415_, c416_, rfl⟩ | ⟨c417_, c418_, c419_, c420_, rfl⟩ | ⟨c421_, c422_, c423_, c424_, c425_, rfl⟩ | ⟨c426_, c427_, c428_, c429_, c430_, c431_, rfl⟩ | ⟨c432_, c433_, c434_, c435_, c436_, c437_, c438_, rfl⟩ | ⟨c439_, c440_, c441_, c442_, c443_, c444_, c445_, c446_, rfl⟩ | ⟨c447_, c448_, c449_, c450_, c451_, c452_, c453_, rfl⟩
    · skip
      exfalso
      have z0_ := tz_nlt_r c95_ (show (0 : Int32).toInt = 0 by decide)
      have z1_ := tz_nle_l c96_ (show (65536 : Int32).toInt = 65536 by decide)
      have z2_ := tz_lt_r c411_ (show (0 : Int32).toInt = 0 by decide)
      omega
    · skip
      exfalso
      have z0_ := tz_nlt_r c95_ (show (0 : Int32).toInt = 0 by decide)
      have z1_ := tz_nle_l c96_ (show (65536 : Int32).toInt = 65536 by decide)
      have z2_ := tz_le_l c413_ (show (65536 : Int32).toInt = 65536 by decide)
      omega
    · skip
      exfalso
      have z0_ := tz_nlt_r c97_ (show (0 : Int32).toInt = 0 by decide)
      have z1_ := tz_nle_l c98_ (show (65536 : Int32).toInt = 65536 by decide)
      have z2_ := tz_lt_r c416_ (show (0 : Int32).toInt = 0 by decide)
      omega
    · skip
      exfalso
      have z0_ := tz_nlt_r c97_ (show (0 : Int32).toInt = 0 by decide)
      have z1_ := tz_nle_l c98_ (show (65536 : Int32).toInt = 65536 by decide)
      have z2_ := tz_le_l c420_ (show (65536 : Int32).toInt = 65536 by decide)
      omega
    · skip
      exfalso
      have z0_ := tz_nlt_r c99_ (show (0 : Int32).toInt = 0 by decide)
      have z1_ := tz_nle_l c100_ (show (65536 : Int32).toInt = 65536 by decide)
      have z2_ := tz_lt_r c425_ (show (0 : Int32).toInt = 0 by decide)
      omega
    · skip
      exfalso
      have z0_ := tz_nlt_r c99_ (show (0 : Int32).toInt = 0 by decide)
      have z1_ := tz_nle_l c100_ (show (65536 : Int32).toInt = 65536 by decide)
      have z2_ := tz_le_l c431_ (show (65536 : Int32).toInt = 65536 by decide)
      omega
    · skip
      exfalso
      have z0_ := tz_nlt_r c101_ (show (0 : Int32).toInt = 0 by decide)
      have z1_ := tz_le_l c102_ (show (1 : Int32).toInt = 1 by decide)
      have z2_ := tz_lt_r c438_ (show (0 : Int32).toInt = 0 by decide)
      omega
    · skip
      refine lv_icmp_eq (tgt := 983) hx hb dL_law_334 (by decide) (fun _ => ?_) (fun c9_ => absurd (by decide) c9_)
      refine lv_iinc (v := 6) (lv' := [(3, .int 6), (2, .ref (b 0)), (1, .ref (a 0)), (0, .ref sc)]) hx hb dL_law_983 hl (k := 0) rfl (by decide) (by decide) rfl (fun ls hl => ?_)
      refine lv_goto (tgt := 18) hx hb dL_law_986 (by decide) ?_
      refine lv_iload_n hx hb dL_law_18 rfl (lv_at hl 0 rfl) ?_
      refine lv_aload_n hx hb dL_law_19 rfl (lv_at hl 3 rfl) ?_
      refine va_slen hx hb hX hbl hbA hS dL_law_20 ?_
      refine tk_i 6 (by decide) ?_
      refine lv_bipush (v := 6) hx hb dL_law_21 (by decide) ?_
      refine lv_isub hx hb dL_law_23 ?_
      refine tk_i 0 (by decide) ?_
      refine lv_icmp_gt (tgt := 989) hx hb dL_law_24 (by decide) (fun _ => ?_) (fun c9_ => absurd (by decide) c9_)
      refine lv_iconst (v := 1) hx hb dL_law_989 (by decide) ?_
      refine va_forget (fun q hq => by have h := hS.2.2 q hq; rw [hAe] at h; exact h) ?_
      refine W.widen (k := 600000) (n := 7302249) (Nat.le_of_ble_eq_true rfl) (Nat.le_of_ble_eq_true rfl) ?_
      exact lw_ret hx hb hr hlocks dL_law_990
    · skip
      exfalso
      have z0_ := tz_nlt_r c101_ (show (0 : Int32).toInt = 0 by decide)
      have z1_ := tz_le_l c102_ (show (1 : Int32).toInt = 1 by decide)
      have z2_ := tz_eq_r c453_ (show (0 : Int32).toInt = 0 by decide)
      omega
  · skip
    subst c109_
    refine lv_aload_n hx hb dL_law_310 rfl (lv_at hl 1 rfl) ?_
    refine lv_aload_n hx hb dL_law_311 rfl (lv_at hl 3 rfl) ?_
    refine lv_iload_n hx hb dL_law_312 rfl (lv_at hl 0 rfl) ?_
    refine lv_iconst (v := 1) hx hb dL_law_313 (by decide) ?_
    refine lv_iadd hx hb dL_law_314 ?_
    refine tk_i 1 (by decide) ?_
    refine va_sld hx hb hX hbl hbA hS (show ¬ ((1 : Int32) < 0 ∨ 6 ≤ Int32.toNatClampNeg 1) by decide) dL_law_315 ?_
    refine tk_i 0 ex1 ?_
    refine lv_aload_n hx hb dL_law_316 rfl (lv_at hl 3 rfl) ?_
    refine lv_iload_n hx hb dL_law_317 rfl (lv_at hl 0 rfl) ?_
    refine lv_iconst (v := 2) hx hb dL_law_318 (by decide) ?_
    refine lv_iadd hx hb dL_law_319 ?_
    refine tk_i 2 (by decide) ?_
    refine va_sld hx hb hX hbl hbA hS (show ¬ ((2 : Int32) < 0 ∨ 6 ≤ Int32.toNatClampNeg 2) by decide) dL_law_320 ?_
    refine tk_i x2 ex2 ?_
    refine lv_aload_n hx hb dL_law_321 rfl (lv_at hl 3 rfl) ?_
    refine lv_iload_n hx hb dL_law_322 rfl (lv_at hl 0 rfl) ?_
    refine lv_iconst (v := 3) hx hb dL_law_323 (by decide) ?_
    refine lv_iadd hx hb dL_law_324 ?_
    refine tk_i 3 (by decide) ?_
    refine va_sld hx hb hX hbl hbA hS (show ¬ ((3 : Int32) < 0 ∨ 6 ≤ Int32.toNatClampNeg 3) by decide) dL_law_325 ?_
    refine tk_i x3 ex3 ?_
    refine lv_aload_n hx hb dL_law_326 rfl (lv_at hl 3 rfl) ?_
    refine lv_iload_n hx hb dL_law_327 rfl (lv_at hl 0 rfl) ?_
    refine lv_iconst (v := 4) hx hb dL_law_328 (by decide) ?_
    refine lv_iadd hx hb dL_law_329 ?_
    refine tk_i 4 (by decide) ?_
    refine va_sld hx hb hX hbl hbA hS (show ¬ ((4 : Int32) < 0 ∨ 6 ≤ Int32.toNatClampNeg 4) by decide) dL_law_330 ?_
    refine tk_i x4 ex4 ?_
    have hPc : va_P (dC, dI) vwCl (mw b cy) _ := hP.sub [0, 1, 2, 3, 4, 5, 6, 7] rfl
    have hDc := hD.sub (ws' := mw b cy) [0, 1, 2, 3, 4, 5, 6, 7] (by decide) rfl
    have hFc := va_free (wc := mw b cy) hD hS hA [0, 1, 2, 3, 4, 5, 6, 7] rfl
    refine va_calli (va_runV (As := [.int 0, .int x2, .int x3, .int x4]) (rest := [.int (-2)]) ⟨hx, hb, hml, hown, hts⟩ (c_X12_call l dC dI cy b _ 0 x2 x3 x4) (cwV 4 hts g_L_law_X12_call_36 rfl rfl rfl (by decide +kernel) ⟨Nat.le_of_ble_eq_true rfl, Nat.le_of_ble_eq_true rfl⟩) (pv_ps hC hPc hDc (ci := 12) (q0 := 0) rfl rfl) rfl rfl hl.1 rfl (lv_room (Nat.le_of_ble_eq_true rfl)) dL_law_331 ⟨Nat.le_of_ble_eq_true rfl, Nat.le_of_ble_eq_true rfl⟩) hS (fun q _ h => hFc q h) hFc (fun r_ u t_ H1 locs ht hvm hw hB hz1 hk1 hS => ?_)
    obtain ⟨hP, hD⟩ := va_join (wr := []) (w1 := []) hP hD [0, 1, 2, 3, 4, 5, 6, 7] [] rfl rfl (by decide) (by decide) hk1 hFc va_P0 va_D0
    generalize H1 = H at hP hS ⊢
    have hP : va_P (dC, dI) vwCl ([]) H := hP
    have hD : va_D A ([]) := hD
    rcases hw with ⟨c454_, rfl⟩ | ⟨c455_, c456_, rfl⟩ | ⟨c457_, c458_, c459_, rfl⟩ | ⟨c460_, c461_, c462_, c463_, rfl⟩ | ⟨c464_, c465_, c466_, c467_, c468_, rfl⟩ | ⟨c469_, c470_, c471_, c472_, c473_, c474_, rfl⟩ | ⟨c475_, c476_, c477_, c478_, c479_, c480_, c481_, rfl⟩ | ⟨c482_, c483_, c484_, c485_, c486_, c487_, -, c489_, rfl⟩ | ⟨c490_, c491_, c492_, c493_, c494_, c495_, -, rfl⟩
    · skip
      exfalso
      have z0_ := tz_nlt_r c103_ (show (0 : Int32).toInt = 0 by decide)
      have z1_ := tz_nle_l c104_ (show (65536 : Int32).toInt = 65536 by decide)
      have z2_ := tz_lt_r c454_ (show (0 : Int32).toInt = 0 by decide)
      omega
    · skip
      exfalso
      have z0_ := tz_nlt_r c103_ (show (0 : Int32).toInt = 0 by decide)
      have z1_ := tz_nle_l c104_ (show (65536 : Int32).toInt = 65536 by decide)
      have z2_ := tz_le_l c456_ (show (65536 : Int32).toInt = 65536 by decide)
      omega
    · skip
      exfalso
      have z0_ := tz_nlt_r c105_ (show (0 : Int32).toInt = 0 by decide)
      have z1_ := tz_nle_l c106_ (show (65536 : Int32).toInt = 65536 by decide)
      have z2_ := tz_lt_r c459_ (show (0 : Int32).toInt = 0 by decide)
      omega
    · skip
      exfalso
      have z0_ := tz_nlt_r c105_ (show (0 : Int32).toInt = 0 by decide)
      have z1_ := tz_nle_l c106_ (show (65536 : Int32).toInt = 65536 by decide)
      have z2_ := tz_le_l c463_ (show (65536 : Int32).toInt = 65536 by decide)
      omega
    · skip
      exfalso
      have z0_ := tz_nlt_r c107_ (show (0 : Int32).toInt = 0 by decide)
      have z1_ := tz_nle_l c108_ (show (65536 : Int32).toInt = 65536 by decide)
      have z2_ := tz_lt_r c468_ (show (0 : Int32).toInt = 0 by decide)
      omega
    · skip
      exfalso
      have z0_ := tz_nlt_r c107_ (show (0 : Int32).toInt = 0 by decide)
      have z1_ := tz_nle_l c108_ (show (65536 : Int32).toInt = 65536 by decide)
      have z2_ := tz_le_l c474_ (show (65536 : Int32).toInt = 65536 by decide)
      omega
    · skip
      exact absurd c481_ (by decide)
    · skip
      exact absurd c489_ (by decide)
    · skip
      refine lv_icmp_eq (tgt := 983) hx hb dL_law_334 (by decide) (fun _ => ?_) (fun c9_ => absurd (by decide) c9_)
      refine lv_iinc (v := 6) (lv' := [(3, .int 6), (2, .ref (b 0)), (1, .ref (a 0)), (0, .ref sc)]) hx hb dL_law_983 hl (k := 0) rfl (by decide) (by decide) rfl (fun ls hl => ?_)
      refine lv_goto (tgt := 18) hx hb dL_law_986 (by decide) ?_
      refine lv_iload_n hx hb dL_law_18 rfl (lv_at hl 0 rfl) ?_
      refine lv_aload_n hx hb dL_law_19 rfl (lv_at hl 3 rfl) ?_
      refine va_slen hx hb hX hbl hbA hS dL_law_20 ?_
      refine tk_i 6 (by decide) ?_
      refine lv_bipush (v := 6) hx hb dL_law_21 (by decide) ?_
      refine lv_isub hx hb dL_law_23 ?_
      refine tk_i 0 (by decide) ?_
      refine lv_icmp_gt (tgt := 989) hx hb dL_law_24 (by decide) (fun _ => ?_) (fun c9_ => absurd (by decide) c9_)
      refine lv_iconst (v := 1) hx hb dL_law_989 (by decide) ?_
      refine va_forget (fun q hq => by have h := hS.2.2 q hq; rw [hAe] at h; exact h) ?_
      refine W.widen (k := 600000) (n := 7302249) (Nat.le_of_ble_eq_true rfl) (Nat.le_of_ble_eq_true rfl) ?_
      exact lw_ret hx hb hr hlocks dL_law_990
set_option maxHeartbeats 40000000 in
set_option maxRecDepth 100000 in
theorem lawc_5 {p : Program} {e : Env} {s : State} {m : MethodId} {below : List Frame} {meth : Method} {c : Code} (l : Launch) {sc : Nat} {xs : Nat → Int32} {A : Nat → Prop} {dC : Nat → ClassId} {dI : Nat → Nat → Nat} {cy : Nat → ClassId} {a b : Nat → Nat} {g : Nat → Nat → Option Nat} (hAe : A = fun q => s.heap.size ≤ q) (C0 : lw_At p s m meth c sc 6 xs) (hC : cK dC dI cy s) {H : Heap} {locs : List Loc} {ls : Array Slot} (hP : va_P (dC, dI) vwCl (fw a cy g ++ mw b cy) H) (hD : va_D A (fw a cy g ++ mw b cy)) (hS : va_S A s.heap H locs) (hl : lv_has ls 4 [(3, .int 0), (2, .ref (b 0)), (1, .ref (a 0)), (0, .ref sc)]) : W p l e room_1 s m #[Value.ref sc] below meth c H locs 1000 100000 (lw_Z below #[Value.ref sc] s) (F0 m 339 ls []) := by
  obtain ⟨hx, hb, hr, hml, hown, hts0, hX, hbl, hlocks, -⟩ := C0
  have hown : s.vm.findClass RL = some m.cls := hown
  have hts : ∀ w ∈ v_L_law, w.before #[Value.ref sc] s = true := fun w h => hts0 w (v_L_in w h)
  have hK := hC.1
  have hA : ∀ q : Nat, s.heap.size ≤ q → A q := fun q h => by rw [hAe]; exact h
  have hbA : ¬ A sc := by
    rw [hAe]
    exact Nat.not_le.mpr hbl
  obtain ⟨x0, ex0⟩ : ∃ z : Int32, xs (Int32.toNatClampNeg 0) = z := ⟨_, rfl⟩
  obtain ⟨x1, ex1⟩ : ∃ z : Int32, xs (Int32.toNatClampNeg 1) = z := ⟨_, rfl⟩
  obtain ⟨x2, ex2⟩ : ∃ z : Int32, xs (Int32.toNatClampNeg 2) = z := ⟨_, rfl⟩
  obtain ⟨x3, ex3⟩ : ∃ z : Int32, xs (Int32.toNatClampNeg 3) = z := ⟨_, rfl⟩
  obtain ⟨x4, ex4⟩ : ∃ z : Int32, xs (Int32.toNatClampNeg 4) = z := ⟨_, rfl⟩
  obtain ⟨x5, ex5⟩ : ∃ z : Int32, xs (Int32.toNatClampNeg 5) = z := ⟨_, rfl⟩
  refine lv_aload_n hx hb dL_law_339 rfl (lv_at hl 2 rfl) ?_
  refine lv_aload_n hx hb dL_law_340 rfl (lv_at hl 3 rfl) ?_
  refine lv_iload_n hx hb dL_law_341 rfl (lv_at hl 0 rfl) ?_
  refine lv_iconst (v := 1) hx hb dL_law_342 (by decide) ?_
  refine lv_iadd hx hb dL_law_343 ?_
  refine tk_i 1 (by decide) ?_
  refine va_sld hx hb hX hbl hbA hS (show ¬ ((1 : Int32) < 0 ∨ 6 ≤ Int32.toNatClampNeg 1) by decide) dL_law_344 ?_
  refine tk_i x1 ex1 ?_
  refine lv_aload_n hx hb dL_law_345 rfl (lv_at hl 3 rfl) ?_
  refine lv_iload_n hx hb dL_law_346 rfl (lv_at hl 0 rfl) ?_
  refine lv_iconst (v := 2) hx hb dL_law_347 (by decide) ?_
  refine lv_iadd hx hb dL_law_348 ?_
  refine tk_i 2 (by decide) ?_
  refine va_sld hx hb hX hbl hbA hS (show ¬ ((2 : Int32) < 0 ∨ 6 ≤ Int32.toNatClampNeg 2) by decide) dL_law_349 ?_
  refine tk_i x2 ex2 ?_
  have hPc : va_P (dC, dI) vwCl (fw a cy g) _ := hP.sub [0, 1, 2, 3, 4, 5, 6, 7, 8, 9, 10, 11, 12, 13, 14, 15, 16, 17, 18, 19, 20, 21, 22, 23, 24, 25, 26, 27, 28, 29, 30, 31, 32, 33, 34, 35, 36, 37, 38, 39, 40, 41, 42, 43, 44, 45, 46, 47, 48, 49, 50, 51, 52, 53, 54, 55] rfl
  have hDc := hD.sub (ws' := fw a cy g) [0, 1, 2, 3, 4, 5, 6, 7, 8, 9, 10, 11, 12, 13, 14, 15, 16, 17, 18, 19, 20, 21, 22, 23, 24, 25, 26, 27, 28, 29, 30, 31, 32, 33, 34, 35, 36, 37, 38, 39, 40, 41, 42, 43, 44, 45, 46, 47, 48, 49, 50, 51, 52, 53, 54, 55] (by decide) rfl
  have hFc := va_free (wc := fw a cy g) hD hS hA [0, 1, 2, 3, 4, 5, 6, 7, 8, 9, 10, 11, 12, 13, 14, 15, 16, 17, 18, 19, 20, 21, 22, 23, 24, 25, 26, 27, 28, 29, 30, 31, 32, 33, 34, 35, 36, 37, 38, 39, 40, 41, 42, 43, 44, 45, 46, 47, 48, 49, 50, 51, 52, 53, 54, 55] rfl
  refine va_calli (va_runV (As := [.int x1, .int x2]) (rest := []) ⟨hx, hb, hml, hown, hts⟩ (c_X11_store l dC dI cy a g _ x1 x2) (cwV 2 hts g_L_law_X11_store_37 rfl rfl rfl (by decide +kernel) ⟨Nat.le_of_ble_eq_true rfl, Nat.le_of_ble_eq_true rfl⟩) (pv_ps hC hPc hDc (ci := 11) (q0 := 0) rfl rfl) rfl rfl hl.1 rfl (lv_room (Nat.le_of_ble_eq_true rfl)) dL_law_350 ⟨Nat.le_of_ble_eq_true rfl, Nat.le_of_ble_eq_true rfl⟩) hS (fun q _ h => hFc q h) hFc (fun r_ u t_ H1 locs ht hvm hw hB hz1 hk1 hS => ?_)
  obtain ⟨hP, hD⟩ := va_join (wr := mw b cy) (w1 := []) hP hD [0, 1, 2, 3, 4, 5, 6, 7, 8, 9, 10, 11, 12, 13, 14, 15, 16, 17, 18, 19, 20, 21, 22, 23, 24, 25, 26, 27, 28, 29, 30, 31, 32, 33, 34, 35, 36, 37, 38, 39, 40, 41, 42, 43, 44, 45, 46, 47, 48, 49, 50, 51, 52, 53, 54, 55] [56, 57, 58, 59, 60, 61, 62, 63] rfl rfl (by decide) (by decide) hk1 hFc va_P0 va_D0
  generalize H1 = H at hP hS ⊢
  have hP : va_P (dC, dI) vwCl (mw b cy) H := hP
  have hD : va_D A (mw b cy) := hD
  rcases hw with ⟨c497_, rfl⟩ | ⟨c498_, c499_, rfl⟩ | ⟨c500_, c501_, c502_, rfl⟩ | ⟨c503_, c504_, c505_, c506_, rfl⟩ | ⟨c507_, c508_, c509_, rfl⟩
  · skip
    refine lv_aload_n hx hb dL_law_353 rfl (lv_at hl 1 rfl) ?_
    refine lv_aload_n hx hb dL_law_354 rfl (lv_at hl 3 rfl) ?_
    refine lv_iload_n hx hb dL_law_355 rfl (lv_at hl 0 rfl) ?_
    refine lv_iconst (v := 1) hx hb dL_law_356 (by decide) ?_
    refine lv_iadd hx hb dL_law_357 ?_
    refine tk_i 1 (by decide) ?_
    refine va_sld hx hb hX hbl hbA hS (show ¬ ((1 : Int32) < 0 ∨ 6 ≤ Int32.toNatClampNeg 1) by decide) dL_law_358 ?_
    refine tk_i x1 ex1 ?_
    refine lv_aload_n hx hb dL_law_359 rfl (lv_at hl 3 rfl) ?_
    refine lv_iload_n hx hb dL_law_360 rfl (lv_at hl 0 rfl) ?_
    refine lv_iconst (v := 2) hx hb dL_law_361 (by decide) ?_
    refine lv_iadd hx hb dL_law_362 ?_
    refine tk_i 2 (by decide) ?_
    refine va_sld hx hb hX hbl hbA hS (show ¬ ((2 : Int32) < 0 ∨ 6 ≤ Int32.toNatClampNeg 2) by decide) dL_law_363 ?_
    refine tk_i x2 ex2 ?_
    have hPc : va_P (dC, dI) vwCl (mw b cy) _ := hP.sub [0, 1, 2, 3, 4, 5, 6, 7] rfl
    have hDc := hD.sub (ws' := mw b cy) [0, 1, 2, 3, 4, 5, 6, 7] (by decide) rfl
    have hFc := va_free (wc := mw b cy) hD hS hA [0, 1, 2, 3, 4, 5, 6, 7] rfl
    refine va_calli (va_runV (As := [.int x1, .int x2]) (rest := [.int (-1)]) ⟨hx, hb, hml, hown, hts⟩ (c_X12_store l dC dI cy b _ x1 x2) (cwV 2 hts g_L_law_X12_store_41 rfl rfl rfl (by decide +kernel) ⟨Nat.le_of_ble_eq_true rfl, Nat.le_of_ble_eq_true rfl⟩) (pv_ps hC hPc hDc (ci := 12) (q0 := 0) rfl rfl) rfl rfl hl.1 rfl (lv_room (Nat.le_of_ble_eq_true rfl)) dL_law_364 ⟨Nat.le_of_ble_eq_true rfl, Nat.le_of_ble_eq_true rfl⟩) hS (fun q _ h => hFc q h) hFc (fun r_ u t_ H1 locs ht hvm hw hB hz1 hk1 hS => ?_)
    obtain ⟨hP, hD⟩ := va_join (wr := []) (w1 := []) hP hD [0, 1, 2, 3, 4, 5, 6, 7] [] rfl rfl (by decide) (by decide) hk1 hFc va_P0 va_D0
    generalize H1 = H at hP hS ⊢
    have hP : va_P (dC, dI) vwCl ([]) H := hP
    have hD : va_D A ([]) := hD
    rcases hw with ⟨c510_, rfl⟩ | ⟨c511_, c512_, rfl⟩ | ⟨c513_, c514_, c515_, rfl⟩ | ⟨c516_, c517_, c518_, c519_, rfl⟩ | ⟨c520_, c521_, c522_, rfl⟩
    · skip
      refine lv_icmp_eq (tgt := 983) hx hb dL_law_367 (by decide) (fun _ => ?_) (fun c9_ => absurd (by decide) c9_)
      refine lv_iinc (v := 6) (lv' := [(3, .int 6), (2, .ref (b 0)), (1, .ref (a 0)), (0, .ref sc)]) hx hb dL_law_983 hl (k := 0) rfl (by decide) (by decide) rfl (fun ls hl => ?_)
      refine lv_goto (tgt := 18) hx hb dL_law_986 (by decide) ?_
      refine lv_iload_n hx hb dL_law_18 rfl (lv_at hl 0 rfl) ?_
      refine lv_aload_n hx hb dL_law_19 rfl (lv_at hl 3 rfl) ?_
      refine va_slen hx hb hX hbl hbA hS dL_law_20 ?_
      refine tk_i 6 (by decide) ?_
      refine lv_bipush (v := 6) hx hb dL_law_21 (by decide) ?_
      refine lv_isub hx hb dL_law_23 ?_
      refine tk_i 0 (by decide) ?_
      refine lv_icmp_gt (tgt := 989) hx hb dL_law_24 (by decide) (fun _ => ?_) (fun c9_ => absurd (by decide) c9_)
      refine lv_iconst (v := 1) hx hb dL_law_989 (by decide) ?_
      refine va_forget (fun q hq => by have h := hS.2.2 q hq; rw [hAe] at h; exact h) ?_
      refine W.widen (k := 600000) (n := 7302249) (Nat.le_of_ble_eq_true rfl) (Nat.le_of_ble_eq_true rfl) ?_
      exact lw_ret hx hb hr hlocks dL_law_990
    · skip
      exfalso
      have z0_ := tz_lt_r c497_ (show (0 : Int32).toInt = 0 by decide)
      have z1_ := tz_nlt_r c511_ (show (0 : Int32).toInt = 0 by decide)
      omega
    · skip
      exfalso
      have z0_ := tz_lt_r c497_ (show (0 : Int32).toInt = 0 by decide)
      have z1_ := tz_nlt_r c513_ (show (0 : Int32).toInt = 0 by decide)
      omega
    · skip
      exfalso
      have z0_ := tz_lt_r c497_ (show (0 : Int32).toInt = 0 by decide)
      have z1_ := tz_nlt_r c516_ (show (0 : Int32).toInt = 0 by decide)
      omega
    · skip
      exfalso
      have z0_ := tz_lt_r c497_ (show (0 : Int32).toInt = 0 by decide)
      have z1_ := tz_nlt_r c520_ (show (0 : Int32).toInt = 0 by decide)
      omega
  · skip
    refine lv_aload_n hx hb dL_law_353 rfl (lv_at hl 1 rfl) ?_
    refine lv_aload_n hx hb dL_law_354 rfl (lv_at hl 3 rfl) ?_
    refine lv_iload_n hx hb dL_law_355 rfl (lv_at hl 0 rfl) ?_
    refine lv_iconst (v := 1) hx hb dL_law_356 (by decide) ?_
    refine lv_iadd hx hb dL_law_357 ?_
    refine tk_i 1 (by decide) ?_
    refine va_sld hx hb hX hbl hbA hS (show ¬ ((1 : Int32) < 0 ∨ 6 ≤ Int32.toNatClampNeg 1) by decide) dL_law_358 ?_
    refine tk_i x1 ex1 ?_
    refine lv_aload_n hx hb dL_law_359 rfl (lv_at hl 3 rfl) ?_
    refine lv_iload_n hx hb dL_law_360 rfl (lv_at hl 0 rfl) ?_
    refine lv_iconst (v := 2) hx hb dL_law_361 (by decide) ?_
    refine lv_iadd hx hb dL_law_362 ?_
    refine tk_i 2 (by decide) ?_
    refine va_sld hx hb hX hbl hbA hS (show ¬ ((2 : Int32) < 0 ∨ 6 ≤ Int32.toNatClampNeg 2) by decide) dL_law_363 ?_
    refine tk_i x2 ex2 ?_
    have hPc : va_P (dC, dI) vwCl (mw b cy) _ := hP.sub [0, 1, 2, 3, 4, 5, 6, 7] rfl
    have hDc := hD.sub (ws' := mw b cy) [0, 1, 2, 3, 4, 5, 6, 7] (by decide) rfl
    have hFc := va_free (wc := mw b cy) hD hS hA [0, 1, 2, 3, 4, 5, 6, 7] rfl
    refine va_calli (va_runV (As := [.int x1, .int x2]) (rest := [.int (-1)]) ⟨hx, hb, hml, hown, hts⟩ (c_X12_store l dC dI cy b _ x1 x2) (cwV 2 hts g_L_law_X12_store_41 rfl rfl rfl (by decide +kernel) ⟨Nat.le_of_ble_eq_true rfl, Nat.le_of_ble_eq_true rfl⟩) (pv_ps hC hPc hDc (ci := 12) (q0 := 0) rfl rfl) rfl rfl hl.1 rfl (lv_room (Nat.le_of_ble_eq_true rfl)) dL_law_364 ⟨Nat.le_of_ble_eq_true rfl, Nat.le_of_ble_eq_true rfl⟩) hS (fun q _ h => hFc q h) hFc (fun r_ u t_ H1 locs ht hvm hw hB hz1 hk1 hS => ?_)
    obtain ⟨hP, hD⟩ := va_join (wr := []) (w1 := []) hP hD [0, 1, 2, 3, 4, 5, 6, 7] [] rfl rfl (by decide) (by decide) hk1 hFc va_P0 va_D0
    generalize H1 = H at hP hS ⊢
    have hP : va_P (dC, dI) vwCl ([]) H := hP
    have hD : va_D A ([]) := hD
    rcases hw with ⟨c523_, rfl⟩ | ⟨c524_, c525_, rfl⟩ | ⟨c526_, c527_, c528_, rfl⟩ | ⟨c529_, c530_, c531_, c532_, rfl⟩ | ⟨c533_, c534_, c535_, rfl⟩
    · skip
      exfalso
      have z0_ := tz_nlt_r c498_ (show (0 : Int32).toInt = 0 by decide)
      have z1_ := tz_le_l c499_ (show (65536 : Int32).toInt = 65536 by decide)
      have z2_ := tz_lt_r c523_ (show (0 : Int32).toInt = 0 by decide)
      omega
    · skip
      refine lv_icmp_eq (tgt := 983) hx hb dL_law_367 (by decide) (fun _ => ?_) (fun c9_ => absurd (by decide) c9_)
      refine lv_iinc (v := 6) (lv' := [(3, .int 6), (2, .ref (b 0)), (1, .ref (a 0)), (0, .ref sc)]) hx hb dL_law_983 hl (k := 0) rfl (by decide) (by decide) rfl (fun ls hl => ?_)
      refine lv_goto (tgt := 18) hx hb dL_law_986 (by decide) ?_
      refine lv_iload_n hx hb dL_law_18 rfl (lv_at hl 0 rfl) ?_
      refine lv_aload_n hx hb dL_law_19 rfl (lv_at hl 3 rfl) ?_
      refine va_slen hx hb hX hbl hbA hS dL_law_20 ?_
      refine tk_i 6 (by decide) ?_
      refine lv_bipush (v := 6) hx hb dL_law_21 (by decide) ?_
      refine lv_isub hx hb dL_law_23 ?_
      refine tk_i 0 (by decide) ?_
      refine lv_icmp_gt (tgt := 989) hx hb dL_law_24 (by decide) (fun _ => ?_) (fun c9_ => absurd (by decide) c9_)
      refine lv_iconst (v := 1) hx hb dL_law_989 (by decide) ?_
      refine va_forget (fun q hq => by have h := hS.2.2 q hq; rw [hAe] at h; exact h) ?_
      refine W.widen (k := 600000) (n := 7302249) (Nat.le_of_ble_eq_true rfl) (Nat.le_of_ble_eq_true rfl) ?_
      exact lw_ret hx hb hr hlocks dL_law_990
    · skip
      exfalso
      have z0_ := tz_nlt_r c498_ (show (0 : Int32).toInt = 0 by decide)
      have z1_ := tz_le_l c499_ (show (65536 : Int32).toInt = 65536 by decide)
      have z2_ := tz_nle_l c527_ (show (65536 : Int32).toInt = 65536 by decide)
      omega
    · skip
      exfalso
      have z0_ := tz_nlt_r c498_ (show (0 : Int32).toInt = 0 by decide)
      have z1_ := tz_le_l c499_ (show (65536 : Int32).toInt = 65536 by decide)
      have z2_ := tz_nle_l c530_ (show (65536 : Int32).toInt = 65536 by decide)
      omega
    · skip
      exfalso
      have z0_ := tz_nlt_r c498_ (show (0 : Int32).toInt = 0 by decide)
      have z1_ := tz_le_l c499_ (show (65536 : Int32).toInt = 65536 by decide)
      have z2_ := tz_nle_l c534_ (show (65536 : Int32).toInt = 65536 by decide)
      omega
  · skip
    refine lv_aload_n hx hb dL_law_353 rfl (lv_at hl 1 rfl) ?_
    refine lv_aload_n hx hb dL_law_354 rfl (lv_at hl 3 rfl) ?_
    refine lv_iload_n hx hb dL_law_355 rfl (lv_at hl 0 rfl) ?_
    refine lv_iconst (v := 1) hx hb dL_law_356 (by decide) ?_
    refine lv_iadd hx hb dL_law_357 ?_
    refine tk_i 1 (by decide) ?_
    refine va_sld hx hb hX hbl hbA hS (show ¬ ((1 : Int32) < 0 ∨ 6 ≤ Int32.toNatClampNeg 1) by decide) dL_law_358 ?_
    refine tk_i x1 ex1 ?_
    refine lv_aload_n hx hb dL_law_359 rfl (lv_at hl 3 rfl) ?_
    refine lv_iload_n hx hb dL_law_360 rfl (lv_at hl 0 rfl) ?_
    refine lv_iconst (v := 2) hx hb dL_law_361 (by decide) ?_
    refine lv_iadd hx hb dL_law_362 ?_
    refine tk_i 2 (by decide) ?_
    refine va_sld hx hb hX hbl hbA hS (show ¬ ((2 : Int32) < 0 ∨ 6 ≤ Int32.toNatClampNeg 2) by decide) dL_law_363 ?_
    refine tk_i x2 ex2 ?_
    have hPc : va_P (dC, dI) vwCl (mw b cy) _ := hP.sub [0, 1, 2, 3, 4, 5, 6, 7] rfl
    have hDc := hD.sub (ws' := mw b cy) [0, 1, 2, 3, 4, 5, 6, 7] (by decide) rfl
    have hFc := va_free (wc := mw b cy) hD hS hA [0, 1, 2, 3, 4, 5, 6, 7] rfl
    refine va_calli (va_runV (As := [.int x1, .int x2]) (rest := [.int (-2)]) ⟨hx, hb, hml, hown, hts⟩ (c_X12_store l dC dI cy b _ x1 x2) (cwV 2 hts g_L_law_X12_store_41 rfl rfl rfl (by decide +kernel) ⟨Nat.le_of_ble_eq_true rfl, Nat.le_of_ble_eq_true rfl⟩) (pv_ps hC hPc hDc (ci := 12) (q0 := 0) rfl rfl) rfl rfl hl.1 rfl (lv_room (Nat.le_of_ble_eq_true rfl)) dL_law_364 ⟨Nat.le_of_ble_eq_true rfl, Nat.le_of_ble_eq_true rfl⟩) hS (fun q _ h => hFc q h) hFc (fun r_ u t_ H1 locs ht hvm hw hB hz1 hk1 hS => ?_)
    obtain ⟨hP, hD⟩ := va_join (wr := []) (w1 := []) hP hD [0, 1, 2, 3, 4, 5, 6, 7] [] rfl rfl (by decide) (by decide) hk1 hFc va_P0 va_D0
    generalize H1 = H at hP hS ⊢
    have hP : va_P (dC, dI) vwCl ([]) H := hP
    have hD : va_D A ([]) := hD
    rcases hw with ⟨c536_, rfl⟩ | ⟨c537_, c538_, rfl⟩ | ⟨c539_, c540_, c541_, rfl⟩ | ⟨c542_, c543_, c544_, c545_, rfl⟩ | ⟨c546_, c547_, c548_, rfl⟩
    · skip
      exfalso
      have z0_ := tz_nlt_r c500_ (show (0 : Int32).toInt = 0 by decide)
      have z1_ := tz_nle_l c501_ (show (65536 : Int32).toInt = 65536 by decide)
      have z2_ := tz_lt_r c536_ (show (0 : Int32).toInt = 0 by decide)
      omega
    · skip
      exfalso
      have z0_ := tz_nlt_r c500_ (show (0 : Int32).toInt = 0 by decide)
      have z1_ := tz_nle_l c501_ (show (65536 : Int32).toInt = 65536 by decide)
      have z2_ := tz_le_l c538_ (show (65536 : Int32).toInt = 65536 by decide)
      omega
    · skip
      refine lv_icmp_eq (tgt := 983) hx hb dL_law_367 (by decide) (fun _ => ?_) (fun c9_ => absurd (by decide) c9_)
      refine lv_iinc (v := 6) (lv' := [(3, .int 6), (2, .ref (b 0)), (1, .ref (a 0)), (0, .ref sc)]) hx hb dL_law_983 hl (k := 0) rfl (by decide) (by decide) rfl (fun ls hl => ?_)
      refine lv_goto (tgt := 18) hx hb dL_law_986 (by decide) ?_
      refine lv_iload_n hx hb dL_law_18 rfl (lv_at hl 0 rfl) ?_
      refine lv_aload_n hx hb dL_law_19 rfl (lv_at hl 3 rfl) ?_
      refine va_slen hx hb hX hbl hbA hS dL_law_20 ?_
      refine tk_i 6 (by decide) ?_
      refine lv_bipush (v := 6) hx hb dL_law_21 (by decide) ?_
      refine lv_isub hx hb dL_law_23 ?_
      refine tk_i 0 (by decide) ?_
      refine lv_icmp_gt (tgt := 989) hx hb dL_law_24 (by decide) (fun _ => ?_) (fun c9_ => absurd (by decide) c9_)
      refine lv_iconst (v := 1) hx hb dL_law_989 (by decide) ?_
      refine va_forget (fun q hq => by have h := hS.2.2 q hq; rw [hAe] at h; exact h) ?_
      refine W.widen (k := 600000) (n := 7302249) (Nat.le_of_ble_eq_true rfl) (Nat.le_of_ble_eq_true rfl) ?_
      exact lw_ret hx hb hr hlocks dL_law_990
    · skip
      exfalso
      have z0_ := tz_lt_r c502_ (show (0 : Int32).toInt = 0 by decide)
      have z1_ := tz_nlt_r c544_ (show (0 : Int32).toInt = 0 by decide)
      omega
    · skip
      exfalso
      have z0_ := tz_lt_r c502_ (show (0 : Int32).toInt = 0 by decide)
      have z1_ := tz_eq_r c548_ (show (0 : Int32).toInt = 0 by decide)
      omega
  · skip
    refine lv_aload_n hx hb dL_law_353 rfl (lv_at hl 1 rfl) ?_
    refine lv_aload_n hx hb dL_law_354 rfl (lv_at hl 3 rfl) ?_
    refine lv_iload_n hx hb dL_law_355 rfl (lv_at hl 0 rfl) ?_
    refine lv_iconst (v := 1) hx hb dL_law_356 (by decide) ?_
    refine lv_iadd hx hb dL_law_357 ?_
    refine tk_i 1 (by decide) ?_
    refine va_sld hx hb hX hbl hbA hS (show ¬ ((1 : Int32) < 0 ∨ 6 ≤ Int32.toNatClampNeg 1) by decide) dL_law_358 ?_
    refine tk_i x1 ex1 ?_
    refine lv_aload_n hx hb dL_law_359 rfl (lv_at hl 3 rfl) ?_
    refine lv_iload_n hx hb dL_law_360 rfl (lv_at hl 0 rfl) ?_
    refine lv_iconst (v := 2) hx hb dL_law_361 (by decide) ?_
    refine lv_iadd hx hb dL_law_362 ?_
    refine tk_i 2 (by decide) ?_
    refine va_sld hx hb hX hbl hbA hS (show ¬ ((2 : Int32) < 0 ∨ 6 ≤ Int32.toNatClampNeg 2) by decide) dL_law_363 ?_
    refine tk_i x2 ex2 ?_
    have hPc : va_P (dC, dI) vwCl (mw b cy) _ := hP.sub [0, 1, 2, 3, 4, 5, 6, 7] rfl
    have hDc := hD.sub (ws' := mw b cy) [0, 1, 2, 3, 4, 5, 6, 7] (by decide) rfl
    have hFc := va_free (wc := mw b cy) hD hS hA [0, 1, 2, 3, 4, 5, 6, 7] rfl
    refine va_calli (va_runV (As := [.int x1, .int x2]) (rest := [.int (-2)]) ⟨hx, hb, hml, hown, hts⟩ (c_X12_store l dC dI cy b _ x1 x2) (cwV 2 hts g_L_law_X12_store_41 rfl rfl rfl (by decide +kernel) ⟨Nat.le_of_ble_eq_true rfl, Nat.le_of_ble_eq_true rfl⟩) (pv_ps hC hPc hDc (ci := 12) (q0 := 0) rfl rfl) rfl rfl hl.1 rfl (lv_room (Nat.le_of_ble_eq_true rfl)) dL_law_364 ⟨Nat.le_of_ble_eq_true rfl, Nat.le_of_ble_eq_true rfl⟩) hS (fun q _ h => hFc q h) hFc (fun r_ u t_ H1 locs ht hvm hw hB hz1 hk1 hS => ?_)
    obtain ⟨hP, hD⟩ := va_join (wr := []) (w1 := []) hP hD [0, 1, 2, 3, 4, 5, 6, 7] [] rfl rfl (by decide) (by decide) hk1 hFc va_P0 va_D0
    generalize H1 = H at hP hS ⊢
    have hP : va_P (dC, dI) vwCl ([]) H := hP
    have hD : va_D A ([]) := hD
    rcases hw with ⟨c549_, rfl⟩ | ⟨c550_, c551_, rfl⟩ | ⟨c552_, c553_, c554_, rfl⟩ | ⟨c555_, c556_, c557_, c558_, rfl⟩ | ⟨c559_, c560_, c561_, rfl⟩
    · skip
      exfalso
      have z0_ := tz_nlt_r c503_ (show (0 : Int32).toInt = 0 by decide)
      have z1_ := tz_nle_l c504_ (show (65536 : Int32).toInt = 65536 by decide)
      have z2_ := tz_lt_r c549_ (show (0 : Int32).toInt = 0 by decide)
      omega
    · skip
      exfalso
      have z0_ := tz_nlt_r c503_ (show (0 : Int32).toInt = 0 by decide)
      have z1_ := tz_nle_l c504_ (show (65536 : Int32).toInt = 65536 by decide)
      have z2_ := tz_le_l c551_ (show (65536 : Int32).toInt = 65536 by decide)
      omega
    · skip
      exfalso
      have z0_ := tz_nlt_r c505_ (show (0 : Int32).toInt = 0 by decide)
      have z1_ := tz_le_l c506_ (show (1 : Int32).toInt = 1 by decide)
      have z2_ := tz_lt_r c554_ (show (0 : Int32).toInt = 0 by decide)
      omega
    · skip
      refine lv_icmp_eq (tgt := 983) hx hb dL_law_367 (by decide) (fun _ => ?_) (fun c9_ => absurd (by decide) c9_)
      refine lv_iinc (v := 6) (lv' := [(3, .int 6), (2, .ref (b 0)), (1, .ref (a 0)), (0, .ref sc)]) hx hb dL_law_983 hl (k := 0) rfl (by decide) (by decide) rfl (fun ls hl => ?_)
      refine lv_goto (tgt := 18) hx hb dL_law_986 (by decide) ?_
      refine lv_iload_n hx hb dL_law_18 rfl (lv_at hl 0 rfl) ?_
      refine lv_aload_n hx hb dL_law_19 rfl (lv_at hl 3 rfl) ?_
      refine va_slen hx hb hX hbl hbA hS dL_law_20 ?_
      refine tk_i 6 (by decide) ?_
      refine lv_bipush (v := 6) hx hb dL_law_21 (by decide) ?_
      refine lv_isub hx hb dL_law_23 ?_
      refine tk_i 0 (by decide) ?_
      refine lv_icmp_gt (tgt := 989) hx hb dL_law_24 (by decide) (fun _ => ?_) (fun c9_ => absurd (by decide) c9_)
      refine lv_iconst (v := 1) hx hb dL_law_989 (by decide) ?_
      refine va_forget (fun q hq => by have h := hS.2.2 q hq; rw [hAe] at h; exact h) ?_
      refine W.widen (k := 600000) (n := 7302249) (Nat.le_of_ble_eq_true rfl) (Nat.le_of_ble_eq_true rfl) ?_
      exact lw_ret hx hb hr hlocks dL_law_990
    · skip
      exfalso
      have z0_ := tz_nlt_r c505_ (show (0 : Int32).toInt = 0 by decide)
      have z1_ := tz_le_l c506_ (show (1 : Int32).toInt = 1 by decide)
      have z2_ := tz_eq_r c561_ (show (0 : Int32).toInt = 0 by decide)
      omega
  · skip
    subst c509_
    refine lv_aload_n hx hb dL_law_353 rfl (lv_at hl 1 rfl) ?_
    refine lv_aload_n hx hb dL_law_354 rfl (lv_at hl 3 rfl) ?_
    refine lv_iload_n hx hb dL_law_355 rfl (lv_at hl 0 rfl) ?_
    refine lv_iconst (v := 1) hx hb dL_law_356 (by decide) ?_
    refine lv_iadd hx hb dL_law_357 ?_
    refine tk_i 1 (by decide) ?_
    refine va_sld hx hb hX hbl hbA hS (show ¬ ((1 : Int32) < 0 ∨ 6 ≤ Int32.toNatClampNeg 1) by decide) dL_law_358 ?_
    refine tk_i 0 ex1 ?_
    refine lv_aload_n hx hb dL_law_359 rfl (lv_at hl 3 rfl) ?_
    refine lv_iload_n hx hb dL_law_360 rfl (lv_at hl 0 rfl) ?_
    refine lv_iconst (v := 2) hx hb dL_law_361 (by decide) ?_
    refine lv_iadd hx hb dL_law_362 ?_
    refine tk_i 2 (by decide) ?_
    refine va_sld hx hb hX hbl hbA hS (show ¬ ((2 : Int32) < 0 ∨ 6 ≤ Int32.toNatClampNeg 2) by decide) dL_law_363 ?_
    refine tk_i x2 ex2 ?_
    have hPc : va_P (dC, dI) vwCl (mw b cy) _ := hP.sub [0, 1, 2, 3, 4, 5, 6, 7] rfl
    have hDc := hD.sub (ws' := mw b cy) [0, 1, 2, 3, 4, 5, 6, 7] (by decide) rfl
    have hFc := va_free (wc := mw b cy) hD hS hA [0, 1, 2, 3, 4, 5, 6, 7] rfl
    refine va_calli (va_runV (As := [.int 0, .int x2]) (rest := [.int (-2)]) ⟨hx, hb, hml, hown, hts⟩ (c_X12_store l dC dI cy b _ 0 x2) (cwV 2 hts g_L_law_X12_store_41 rfl rfl rfl (by decide +kernel) ⟨Nat.le_of_ble_eq_true rfl, Nat.le_of_ble_eq_true rfl⟩) (pv_ps hC hPc hDc (ci := 12) (q0 := 0) rfl rfl) rfl rfl hl.1 rfl (lv_room (Nat.le_of_ble_eq_true rfl)) dL_law_364 ⟨Nat.le_of_ble_eq_true rfl, Nat.le_of_ble_eq_true rfl⟩) hS (fun q _ h => hFc q h) hFc (fun r_ u t_ H1 locs ht hvm hw hB hz1 hk1 hS => ?_)
    obtain ⟨hP, hD⟩ := va_join (wr := []) (w1 := []) hP hD [0, 1, 2, 3, 4, 5, 6, 7] [] rfl rfl (by decide) (by decide) hk1 hFc va_P0 va_D0
    generalize H1 = H at hP hS ⊢
    have hP : va_P (dC, dI) vwCl ([]) H := hP
    have hD : va_D A ([]) := hD
    rcases hw with ⟨c562_, rfl⟩ | ⟨c563_, c564_, rfl⟩ | ⟨c565_, c566_, c567_, rfl⟩ | ⟨c568_, c569_, -, c571_, rfl⟩ | ⟨c572_, c573_, -, rfl⟩
    · skip
      exfalso
      have z0_ := tz_nlt_r c507_ (show (0 : Int32).toInt = 0 by decide)
      have z1_ := tz_nle_l c508_ (show (65536 : Int32).toInt = 65536 by decide)
      have z2_ := tz_lt_r c562_ (show (0 : Int32).toInt = 0 by decide)
      omega
    · skip
      exfalso
      have z0_ := tz_nlt_r c507_ (show (0 : Int32).toInt = 0 by decide)
      have z1_ := tz_nle_l c508_ (show (65536 : Int32).toInt = 65536 by decide)
      have z2_ := tz_le_l c564_ (show (65536 : Int32).toInt = 65536 by decide)
      omega
    · skip
      exact absurd c567_ (by decide)
    · skip
      exact absurd c571_ (by decide)
    · skip
      refine lv_icmp_eq (tgt := 983) hx hb dL_law_367 (by decide) (fun _ => ?_) (fun c9_ => absurd (by decide) c9_)
      refine lv_iinc (v := 6) (lv' := [(3, .int 6), (2, .ref (b 0)), (1, .ref (a 0)), (0, .ref sc)]) hx hb dL_law_983 hl (k := 0) rfl (by decide) (by decide) rfl (fun ls hl => ?_)
      refine lv_goto (tgt := 18) hx hb dL_law_986 (by decide) ?_
      refine lv_iload_n hx hb dL_law_18 rfl (lv_at hl 0 rfl) ?_
      refine lv_aload_n hx hb dL_law_19 rfl (lv_at hl 3 rfl) ?_
      refine va_slen hx hb hX hbl hbA hS dL_law_20 ?_
      refine tk_i 6 (by decide) ?_
      refine lv_bipush (v := 6) hx hb dL_law_21 (by decide) ?_
      refine lv_isub hx hb dL_law_23 ?_
      refine tk_i 0 (by decide) ?_
      refine lv_icmp_gt (tgt := 989) hx hb dL_law_24 (by decide) (fun _ => ?_) (fun c9_ => absurd (by decide) c9_)
      refine lv_iconst (v := 1) hx hb dL_law_989 (by decide) ?_
      refine va_forget (fun q hq => by have h := hS.2.2 q hq; rw [hAe] at h; exact h) ?_
      refine W.widen (k := 600000) (n := 7302249) (Nat.le_of_ble_eq_true rfl) (Nat.le_of_ble_eq_true rfl) ?_
      exact lw_ret hx hb hr hlocks dL_law_990
set_option maxHeartbeats 40000000 in
set_option maxRecDepth 100000 in
theorem lawc_6 {p : Program} {e : Env} {s : State} {m : MethodId} {below : List Frame} {meth : Method} {c : Code} (l : Launch) {sc : Nat} {xs : Nat → Int32} {A : Nat → Prop} {dC : Nat → ClassId} {dI : Nat → Nat → Nat} {cy : Nat → ClassId} {a b : Nat → Nat} {g : Nat → Nat → Option Nat} (hAe : A = fun q => s.heap.size ≤ q) (C0 : lw_At p s m meth c sc 6 xs) (hC : cK dC dI cy s) {H : Heap} {locs : List Loc} {ls : Array Slot} (hP : va_P (dC, dI) vwCl (fw a cy g ++ mw b cy) H) (hD : va_D A (fw a cy g ++ mw b cy)) (hS : va_S A s.heap H locs) (hl : lv_has ls 4 [(3, .int 0), (2, .ref (b 0)), (1, .ref (a 0)), (0, .ref sc)]) : W p l e room_1 s m #[Value.ref sc] below meth c H locs 1000 100000 (lw_Z below #[Value.ref sc] s) (F0 m 372 ls []) := by
  obtain ⟨hx, hb, hr, hml, hown, hts0, hX, hbl, hlocks, -⟩ := C0
  have hown : s.vm.findClass RL = some m.cls := hown
  have hts : ∀ w ∈ v_L_law, w.before #[Value.ref sc] s = true := fun w h => hts0 w (v_L_in w h)
  have hK := hC.1
  have hA : ∀ q : Nat, s.heap.size ≤ q → A q := fun q h => by rw [hAe]; exact h
  have hbA : ¬ A sc := by
    rw [hAe]
    exact Nat.not_le.mpr hbl
  obtain ⟨x0, ex0⟩ : ∃ z : Int32, xs (Int32.toNatClampNeg 0) = z := ⟨_, rfl⟩
  obtain ⟨x1, ex1⟩ : ∃ z : Int32, xs (Int32.toNatClampNeg 1) = z := ⟨_, rfl⟩
  obtain ⟨x2, ex2⟩ : ∃ z : Int32, xs (Int32.toNatClampNeg 2) = z := ⟨_, rfl⟩
  obtain ⟨x3, ex3⟩ : ∃ z : Int32, xs (Int32.toNatClampNeg 3) = z := ⟨_, rfl⟩
  obtain ⟨x4, ex4⟩ : ∃ z : Int32, xs (Int32.toNatClampNeg 4) = z := ⟨_, rfl⟩
  obtain ⟨x5, ex5⟩ : ∃ z : Int32, xs (Int32.toNatClampNeg 5) = z := ⟨_, rfl⟩
  refine lv_aload_n hx hb dL_law_372 rfl (lv_at hl 2 rfl) ?_
  refine lv_aload_n hx hb dL_law_373 rfl (lv_at hl 3 rfl) ?_
  refine lv_iload_n hx hb dL_law_374 rfl (lv_at hl 0 rfl) ?_
  refine lv_iconst (v := 1) hx hb dL_law_375 (by decide) ?_
  refine lv_iadd hx hb dL_law_376 ?_
  refine tk_i 1 (by decide) ?_
  refine va_sld hx hb hX hbl hbA hS (show ¬ ((1 : Int32) < 0 ∨ 6 ≤ Int32.toNatClampNeg 1) by decide) dL_law_377 ?_
  refine tk_i x1 ex1 ?_
  refine lv_aload_n hx hb dL_law_378 rfl (lv_at hl 3 rfl) ?_
  refine lv_iload_n hx hb dL_law_379 rfl (lv_at hl 0 rfl) ?_
  refine lv_iconst (v := 2) hx hb dL_law_380 (by decide) ?_
  refine lv_iadd hx hb dL_law_381 ?_
  refine tk_i 2 (by decide) ?_
  refine va_sld hx hb hX hbl hbA hS (show ¬ ((2 : Int32) < 0 ∨ 6 ≤ Int32.toNatClampNeg 2) by decide) dL_law_382 ?_
  refine tk_i x2 ex2 ?_
  have hPc : va_P (dC, dI) vwCl (fw a cy g) _ := hP.sub [0, 1, 2, 3, 4, 5, 6, 7, 8, 9, 10, 11, 12, 13, 14, 15, 16, 17, 18, 19, 20, 21, 22, 23, 24, 25, 26, 27, 28, 29, 30, 31, 32, 33, 34, 35, 36, 37, 38, 39, 40, 41, 42, 43, 44, 45, 46, 47, 48, 49, 50, 51, 52, 53, 54, 55] rfl
  have hDc := hD.sub (ws' := fw a cy g) [0, 1, 2, 3, 4, 5, 6, 7, 8, 9, 10, 11, 12, 13, 14, 15, 16, 17, 18, 19, 20, 21, 22, 23, 24, 25, 26, 27, 28, 29, 30, 31, 32, 33, 34, 35, 36, 37, 38, 39, 40, 41, 42, 43, 44, 45, 46, 47, 48, 49, 50, 51, 52, 53, 54, 55] (by decide) rfl
  have hFc := va_free (wc := fw a cy g) hD hS hA [0, 1, 2, 3, 4, 5, 6, 7, 8, 9, 10, 11, 12, 13, 14, 15, 16, 17, 18, 19, 20, 21, 22, 23, 24, 25, 26, 27, 28, 29, 30, 31, 32, 33, 34, 35, 36, 37, 38, 39, 40, 41, 42, 43, 44, 45, 46, 47, 48, 49, 50, 51, 52, 53, 54, 55] rfl
  refine va_calli (va_runV (As := [.int x1, .int x2]) (rest := []) ⟨hx, hb, hml, hown, hts⟩ (c_X11_power l dC dI cy a g _ x1 x2) (cwV 2 hts g_L_law_X11_power_42 rfl rfl rfl (by decide +kernel) ⟨Nat.le_of_ble_eq_true rfl, Nat.le_of_ble_eq_true rfl⟩) (pv_ps hC hPc hDc (ci := 11) (q0 := 0) rfl rfl) rfl rfl hl.1 rfl (lv_room (Nat.le_of_ble_eq_true rfl)) dL_law_383 ⟨Nat.le_of_ble_eq_true rfl, Nat.le_of_ble_eq_true rfl⟩) hS (fun q _ h => hFc q h) hFc (fun r_ u t_ H1 locs ht hvm hw hB hz1 hk1 hS => ?_)
  obtain ⟨hP, hD⟩ := va_join (wr := mw b cy) (w1 := []) hP hD [0, 1, 2, 3, 4, 5, 6, 7, 8, 9, 10, 11, 12, 13, 14, 15, 16, 17, 18, 19, 20, 21, 22, 23, 24, 25, 26, 27, 28, 29, 30, 31, 32, 33, 34, 35, 36, 37, 38, 39, 40, 41, 42, 43, 44, 45, 46, 47, 48, 49, 50, 51, 52, 53, 54, 55] [56, 57, 58, 59, 60, 61, 62, 63] rfl rfl (by decide) (by decide) hk1 hFc va_P0 va_D0
  generalize H1 = H at hP hS ⊢
  have hP : va_P (dC, dI) vwCl (mw b cy) H := hP
  have hD : va_D A (mw b cy) := hD
  rcases hw with ⟨c575_, rfl⟩ | ⟨c576_, c577_, c578_, rfl⟩ | ⟨c579_, c580_, c581_, c582_, rfl⟩ | ⟨c583_, c584_, c585_, c586_, c587_, rfl⟩ | ⟨c588_, c589_, rfl⟩
  · skip
    refine lv_aload_n hx hb dL_law_386 rfl (lv_at hl 1 rfl) ?_
    refine lv_aload_n hx hb dL_law_387 rfl (lv_at hl 3 rfl) ?_
    refine lv_iload_n hx hb dL_law_388 rfl (lv_at hl 0 rfl) ?_
    refine lv_iconst (v := 1) hx hb dL_law_389 (by decide) ?_
    refine lv_iadd hx hb dL_law_390 ?_
    refine tk_i 1 (by decide) ?_
    refine va_sld hx hb hX hbl hbA hS (show ¬ ((1 : Int32) < 0 ∨ 6 ≤ Int32.toNatClampNeg 1) by decide) dL_law_391 ?_
    refine tk_i x1 ex1 ?_
    refine lv_aload_n hx hb dL_law_392 rfl (lv_at hl 3 rfl) ?_
    refine lv_iload_n hx hb dL_law_393 rfl (lv_at hl 0 rfl) ?_
    refine lv_iconst (v := 2) hx hb dL_law_394 (by decide) ?_
    refine lv_iadd hx hb dL_law_395 ?_
    refine tk_i 2 (by decide) ?_
    refine va_sld hx hb hX hbl hbA hS (show ¬ ((2 : Int32) < 0 ∨ 6 ≤ Int32.toNatClampNeg 2) by decide) dL_law_396 ?_
    refine tk_i x2 ex2 ?_
    have hPc : va_P (dC, dI) vwCl (mw b cy) _ := hP.sub [0, 1, 2, 3, 4, 5, 6, 7] rfl
    have hDc := hD.sub (ws' := mw b cy) [0, 1, 2, 3, 4, 5, 6, 7] (by decide) rfl
    have hFc := va_free (wc := mw b cy) hD hS hA [0, 1, 2, 3, 4, 5, 6, 7] rfl
    refine va_calli (va_runV (As := [.int x1, .int x2]) (rest := [.int (-1)]) ⟨hx, hb, hml, hown, hts⟩ (c_X12_power l dC dI cy b _ x1 x2) (cwV 2 hts g_L_law_X12_power_45 rfl rfl rfl (by decide +kernel) ⟨Nat.le_of_ble_eq_true rfl, Nat.le_of_ble_eq_true rfl⟩) (pv_ps hC hPc hDc (ci := 12) (q0 := 0) rfl rfl) rfl rfl hl.1 rfl (lv_room (Nat.le_of_ble_eq_true rfl)) dL_law_397 ⟨Nat.le_of_ble_eq_true rfl, Nat.le_of_ble_eq_true rfl⟩) hS (fun q _ h => hFc q h) hFc (fun r_ u t_ H1 locs ht hvm hw hB hz1 hk1 hS => ?_)
    obtain ⟨hP, hD⟩ := va_join (wr := []) (w1 := []) hP hD [0, 1, 2, 3, 4, 5, 6, 7] [] rfl rfl (by decide) (by decide) hk1 hFc va_P0 va_D0
    generalize H1 = H at hP hS ⊢
    have hP : va_P (dC, dI) vwCl ([]) H := hP
    have hD : va_D A ([]) := hD
    rcases hw with ⟨c590_, rfl⟩ | ⟨c591_, c592_, rfl⟩ | ⟨c593_, c594_, c595_, rfl⟩ | ⟨c596_, c597_, c598_, c599_, rfl⟩ | ⟨c600_, c601_, c602_, c603_, c604_, rfl⟩
    · skip
      refine lv_icmp_eq (tgt := 983) hx hb dL_law_400 (by decide) (fun _ => ?_) (fun c9_ => absurd (by decide) c9_)
      refine lv_iinc (v := 6) (lv' := [(3, .int 6), (2, .ref (b 0)), (1, .ref (a 0)), (0, .ref sc)]) hx hb dL_law_983 hl (k := 0) rfl (by decide) (by decide) rfl (fun ls hl => ?_)
      refine lv_goto (tgt := 18) hx hb dL_law_986 (by decide) ?_
      refine lv_iload_n hx hb dL_law_18 rfl (lv_at hl 0 rfl) ?_
      refine lv_aload_n hx hb dL_law_19 rfl (lv_at hl 3 rfl) ?_
      refine va_slen hx hb hX hbl hbA hS dL_law_20 ?_
      refine tk_i 6 (by decide) ?_
      refine lv_bipush (v := 6) hx hb dL_law_21 (by decide) ?_
      refine lv_isub hx hb dL_law_23 ?_
      refine tk_i 0 (by decide) ?_
      refine lv_icmp_gt (tgt := 989) hx hb dL_law_24 (by decide) (fun _ => ?_) (fun c9_ => absurd (by decide) c9_)
      refine lv_iconst (v := 1) hx hb dL_law_989 (by decide) ?_
      refine va_forget (fun q hq => by have h := hS.2.2 q hq; rw [hAe] at h; exact h) ?_
      refine W.widen (k := 600000) (n := 7302249) (Nat.le_of_ble_eq_true rfl) (Nat.le_of_ble_eq_true rfl) ?_
      exact lw_ret hx hb hr hlocks dL_law_990
    · skip
      exfalso
      have z0_ := tz_lt_r c575_ (show (0 : Int32).toInt = 0 by decide)
      have z1_ := tz_nlt_r c591_ (show (0 : Int32).toInt = 0 by decide)
      omega
    · skip
      exfalso
      have z0_ := tz_lt_r c575_ (show (0 : Int32).toInt = 0 by decide)
      have z1_ := tz_nlt_r c593_ (show (0 : Int32).toInt = 0 by decide)
      omega
    · skip
      exfalso
      have z0_ := tz_lt_r c575_ (show (0 : Int32).toInt = 0 by decide)
      have z1_ := tz_nlt_r c596_ (show (0 : Int32).toInt = 0 by decide)
      omega
    · skip
      exfalso
      have z0_ := tz_lt_r c575_ (show (0 : Int32).toInt = 0 by decide)
      have z1_ := tz_nlt_r c600_ (show (0 : Int32).toInt = 0 by decide)
      omega
  · skip
    subst c578_
    refine lv_aload_n hx hb dL_law_386 rfl (lv_at hl 1 rfl) ?_
    refine lv_aload_n hx hb dL_law_387 rfl (lv_at hl 3 rfl) ?_
    refine lv_iload_n hx hb dL_law_388 rfl (lv_at hl 0 rfl) ?_
    refine lv_iconst (v := 1) hx hb dL_law_389 (by decide) ?_
    refine lv_iadd hx hb dL_law_390 ?_
    refine tk_i 1 (by decide) ?_
    refine va_sld hx hb hX hbl hbA hS (show ¬ ((1 : Int32) < 0 ∨ 6 ≤ Int32.toNatClampNeg 1) by decide) dL_law_391 ?_
    refine tk_i 0 ex1 ?_
    refine lv_aload_n hx hb dL_law_392 rfl (lv_at hl 3 rfl) ?_
    refine lv_iload_n hx hb dL_law_393 rfl (lv_at hl 0 rfl) ?_
    refine lv_iconst (v := 2) hx hb dL_law_394 (by decide) ?_
    refine lv_iadd hx hb dL_law_395 ?_
    refine tk_i 2 (by decide) ?_
    refine va_sld hx hb hX hbl hbA hS (show ¬ ((2 : Int32) < 0 ∨ 6 ≤ Int32.toNatClampNeg 2) by decide) dL_law_396 ?_
    refine tk_i x2 ex2 ?_
    have hPc : va_P (dC, dI) vwCl (mw b cy) _ := hP.sub [0, 1, 2, 3, 4, 5, 6, 7] rfl
    have hDc := hD.sub (ws' := mw b cy) [0, 1, 2, 3, 4, 5, 6, 7] (by decide) rfl
    have hFc := va_free (wc := mw b cy) hD hS hA [0, 1, 2, 3, 4, 5, 6, 7] rfl
    refine va_calli (va_runV (As := [.int 0, .int x2]) (rest := [.int (-2)]) ⟨hx, hb, hml, hown, hts⟩ (c_X12_power l dC dI cy b _ 0 x2) (cwV 2 hts g_L_law_X12_power_45 rfl rfl rfl (by decide +kernel) ⟨Nat.le_of_ble_eq_true rfl, Nat.le_of_ble_eq_true rfl⟩) (pv_ps hC hPc hDc (ci := 12) (q0 := 0) rfl rfl) rfl rfl hl.1 rfl (lv_room (Nat.le_of_ble_eq_true rfl)) dL_law_397 ⟨Nat.le_of_ble_eq_true rfl, Nat.le_of_ble_eq_true rfl⟩) hS (fun q _ h => hFc q h) hFc (fun r_ u t_ H1 locs ht hvm hw hB hz1 hk1 hS => ?_)
    obtain ⟨hP, hD⟩ := va_join (wr := []) (w1 := []) hP hD [0, 1, 2, 3, 4, 5, 6, 7] [] rfl rfl (by decide) (by decide) hk1 hFc va_P0 va_D0
    generalize H1 = H at hP hS ⊢
    have hP : va_P (dC, dI) vwCl ([]) H := hP
    have hD : va_D A ([]) := hD
    rcases hw with ⟨c605_, rfl⟩ | ⟨c606_, c607_, rfl⟩ | ⟨c608_, c609_, -, rfl⟩ | ⟨c611_, c612_, c613_, c614_, rfl⟩ | ⟨c615_, c616_, c617_, -, c619_, rfl⟩
    · skip
      exfalso
      have z0_ := tz_nlt_r c576_ (show (0 : Int32).toInt = 0 by decide)
      have z1_ := tz_le_r c577_ (show (3 : Int32).toInt = 3 by decide)
      have z2_ := tz_lt_r c605_ (show (0 : Int32).toInt = 0 by decide)
      omega
    · skip
      exfalso
      have z0_ := tz_nlt_r c576_ (show (0 : Int32).toInt = 0 by decide)
      have z1_ := tz_le_r c577_ (show (3 : Int32).toInt = 3 by decide)
      have z2_ := tz_lt_l c607_ (show (3 : Int32).toInt = 3 by decide)
      omega
    · skip
      refine lv_icmp_eq (tgt := 983) hx hb dL_law_400 (by decide) (fun _ => ?_) (fun c9_ => absurd (by decide) c9_)
      refine lv_iinc (v := 6) (lv' := [(3, .int 6), (2, .ref (b 0)), (1, .ref (a 0)), (0, .ref sc)]) hx hb dL_law_983 hl (k := 0) rfl (by decide) (by decide) rfl (fun ls hl => ?_)
      refine lv_goto (tgt := 18) hx hb dL_law_986 (by decide) ?_
      refine lv_iload_n hx hb dL_law_18 rfl (lv_at hl 0 rfl) ?_
      refine lv_aload_n hx hb dL_law_19 rfl (lv_at hl 3 rfl) ?_
      refine va_slen hx hb hX hbl hbA hS dL_law_20 ?_
      refine tk_i 6 (by decide) ?_
      refine lv_bipush (v := 6) hx hb dL_law_21 (by decide) ?_
      refine lv_isub hx hb dL_law_23 ?_
      refine tk_i 0 (by decide) ?_
      refine lv_icmp_gt (tgt := 989) hx hb dL_law_24 (by decide) (fun _ => ?_) (fun c9_ => absurd (by decide) c9_)
      refine lv_iconst (v := 1) hx hb dL_law_989 (by decide) ?_
      refine va_forget (fun q hq => by have h := hS.2.2 q hq; rw [hAe] at h; exact h) ?_
      refine W.widen (k := 600000) (n := 7302249) (Nat.le_of_ble_eq_true rfl) (Nat.le_of_ble_eq_true rfl) ?_
      exact lw_ret hx hb hr hlocks dL_law_990
    · skip
      exact absurd c614_ (by decide)
    · skip
      exact absurd c619_ (by decide)
  · skip
    refine lv_aload_n hx hb dL_law_386 rfl (lv_at hl 1 rfl) ?_
    refine lv_aload_n hx hb dL_law_387 rfl (lv_at hl 3 rfl) ?_
    refine lv_iload_n hx hb dL_law_388 rfl (lv_at hl 0 rfl) ?_
    refine lv_iconst (v := 1) hx hb dL_law_389 (by decide) ?_
    refine lv_iadd hx hb dL_law_390 ?_
    refine tk_i 1 (by decide) ?_
    refine va_sld hx hb hX hbl hbA hS (show ¬ ((1 : Int32) < 0 ∨ 6 ≤ Int32.toNatClampNeg 1) by decide) dL_law_391 ?_
    refine tk_i x1 ex1 ?_
    refine lv_aload_n hx hb dL_law_392 rfl (lv_at hl 3 rfl) ?_
    refine lv_iload_n hx hb dL_law_393 rfl (lv_at hl 0 rfl) ?_
    refine lv_iconst (v := 2) hx hb dL_law_394 (by decide) ?_
    refine lv_iadd hx hb dL_law_395 ?_
    refine tk_i 2 (by decide) ?_
    refine va_sld hx hb hX hbl hbA hS (show ¬ ((2 : Int32) < 0 ∨ 6 ≤ Int32.toNatClampNeg 2) by decide) dL_law_396 ?_
    refine tk_i x2 ex2 ?_
    have hPc : va_P (dC, dI) vwCl (mw b cy) _ := hP.sub [0, 1, 2, 3, 4, 5, 6, 7] rfl
    have hDc := hD.sub (ws' := mw b cy) [0, 1, 2, 3, 4, 5, 6, 7] (by decide) rfl
    have hFc := va_free (wc := mw b cy) hD hS hA [0, 1, 2, 3, 4, 5, 6, 7] rfl
    refine va_calli (va_runV (As := [.int x1, .int x2]) (rest := [.int (-2)]) ⟨hx, hb, hml, hown, hts⟩ (c_X12_power l dC dI cy b _ x1 x2) (cwV 2 hts g_L_law_X12_power_45 rfl rfl rfl (by decide +kernel) ⟨Nat.le_of_ble_eq_true rfl, Nat.le_of_ble_eq_true rfl⟩) (pv_ps hC hPc hDc (ci := 12) (q0 := 0) rfl rfl) rfl rfl hl.1 rfl (lv_room (Nat.le_of_ble_eq_true rfl)) dL_law_397 ⟨Nat.le_of_ble_eq_true rfl, Nat.le_of_ble_eq_true rfl⟩) hS (fun q _ h => hFc q h) hFc (fun r_ u t_ H1 locs ht hvm hw hB hz1 hk1 hS => ?_)
    obtain ⟨hP, hD⟩ := va_join (wr := []) (w1 := []) hP hD [0, 1, 2, 3, 4, 5, 6, 7] [] rfl rfl (by decide) (by decide) hk1 hFc va_P0 va_D0
    generalize H1 = H at hP hS ⊢
    have hP : va_P (dC, dI) vwCl ([]) H := hP
    have hD : va_D A ([]) := hD
    rcases hw with ⟨c620_, rfl⟩ | ⟨c621_, c622_, rfl⟩ | ⟨c623_, c624_, c625_, rfl⟩ | ⟨c626_, c627_, c628_, c629_, rfl⟩ | ⟨c630_, c631_, c632_, c633_, c634_, rfl⟩
    · skip
      exfalso
      have z0_ := tz_nlt_r c579_ (show (0 : Int32).toInt = 0 by decide)
      have z1_ := tz_le_r c580_ (show (3 : Int32).toInt = 3 by decide)
      have z2_ := tz_lt_r c620_ (show (0 : Int32).toInt = 0 by decide)
      omega
    · skip
      exfalso
      have z0_ := tz_nlt_r c579_ (show (0 : Int32).toInt = 0 by decide)
      have z1_ := tz_le_r c580_ (show (3 : Int32).toInt = 3 by decide)
      have z2_ := tz_lt_l c622_ (show (3 : Int32).toInt = 3 by decide)
      omega
    · skip
      exfalso
      have z0_ := tz_neq_r c581_ (show (0 : Int32).toInt = 0 by decide)
      have z1_ := tz_lt_r c582_ (show (0 : Int32).toInt = 0 by decide)
      have z2_ := tz_eq_r c625_ (show (0 : Int32).toInt = 0 by decide)
      omega
    · skip
      refine lv_icmp_eq (tgt := 983) hx hb dL_law_400 (by decide) (fun _ => ?_) (fun c9_ => absurd (by decide) c9_)
      refine lv_iinc (v := 6) (lv' := [(3, .int 6), (2, .ref (b 0)), (1, .ref (a 0)), (0, .ref sc)]) hx hb dL_law_983 hl (k := 0) rfl (by decide) (by decide) rfl (fun ls hl => ?_)
      refine lv_goto (tgt := 18) hx hb dL_law_986 (by decide) ?_
      refine lv_iload_n hx hb dL_law_18 rfl (lv_at hl 0 rfl) ?_
      refine lv_aload_n hx hb dL_law_19 rfl (lv_at hl 3 rfl) ?_
      refine va_slen hx hb hX hbl hbA hS dL_law_20 ?_
      refine tk_i 6 (by decide) ?_
      refine lv_bipush (v := 6) hx hb dL_law_21 (by decide) ?_
      refine lv_isub hx hb dL_law_23 ?_
      refine tk_i 0 (by decide) ?_
      refine lv_icmp_gt (tgt := 989) hx hb dL_law_24 (by decide) (fun _ => ?_) (fun c9_ => absurd (by decide) c9_)
      refine lv_iconst (v := 1) hx hb dL_law_989 (by decide) ?_
      refine va_forget (fun q hq => by have h := hS.2.2 q hq; rw [hAe] at h; exact h) ?_
      refine W.widen (k := 600000) (n := 7302249) (Nat.le_of_ble_eq_true rfl) (Nat.le_of_ble_eq_true rfl) ?_
      exact lw_ret hx hb hr hlocks dL_law_990
    · skip
      exfalso
      have z0_ := tz_neq_r c581_ (show (0 : Int32).toInt = 0 by decide)
      have z1_ := tz_lt_r c582_ (show (0 : Int32).toInt = 0 by decide)
      have z2_ := tz_nlt_r c633_ (show (0 : Int32).toInt = 0 by decide)
      omega
  · skip
    refine lv_aload_n hx hb dL_law_386 rfl (lv_at hl 1 rfl) ?_
    refine lv_aload_n hx hb dL_law_387 rfl (lv_at hl 3 rfl) ?_
    refine lv_iload_n hx hb dL_law_388 rfl (lv_at hl 0 rfl) ?_
    refine lv_iconst (v := 1) hx hb dL_law_389 (by decide) ?_
    refine lv_iadd hx hb dL_law_390 ?_
    refine tk_i 1 (by decide) ?_
    refine va_sld hx hb hX hbl hbA hS (show ¬ ((1 : Int32) < 0 ∨ 6 ≤ Int32.toNatClampNeg 1) by decide) dL_law_391 ?_
    refine tk_i x1 ex1 ?_
    refine lv_aload_n hx hb dL_law_392 rfl (lv_at hl 3 rfl) ?_
    refine lv_iload_n hx hb dL_law_393 rfl (lv_at hl 0 rfl) ?_
    refine lv_iconst (v := 2) hx hb dL_law_394 (by decide) ?_
    refine lv_iadd hx hb dL_law_395 ?_
    refine tk_i 2 (by decide) ?_
    refine va_sld hx hb hX hbl hbA hS (show ¬ ((2 : Int32) < 0 ∨ 6 ≤ Int32.toNatClampNeg 2) by decide) dL_law_396 ?_
    refine tk_i x2 ex2 ?_
    have hPc : va_P (dC, dI) vwCl (mw b cy) _ := hP.sub [0, 1, 2, 3, 4, 5, 6, 7] rfl
    have hDc := hD.sub (ws' := mw b cy) [0, 1, 2, 3, 4, 5, 6, 7] (by decide) rfl
    have hFc := va_free (wc := mw b cy) hD hS hA [0, 1, 2, 3, 4, 5, 6, 7] rfl
    refine va_calli (va_runV (As := [.int x1, .int x2]) (rest := [.int (-2)]) ⟨hx, hb, hml, hown, hts⟩ (c_X12_power l dC dI cy b _ x1 x2) (cwV 2 hts g_L_law_X12_power_45 rfl rfl rfl (by decide +kernel) ⟨Nat.le_of_ble_eq_true rfl, Nat.le_of_ble_eq_true rfl⟩) (pv_ps hC hPc hDc (ci := 12) (q0 := 0) rfl rfl) rfl rfl hl.1 rfl (lv_room (Nat.le_of_ble_eq_true rfl)) dL_law_397 ⟨Nat.le_of_ble_eq_true rfl, Nat.le_of_ble_eq_true rfl⟩) hS (fun q _ h => hFc q h) hFc (fun r_ u t_ H1 locs ht hvm hw hB hz1 hk1 hS => ?_)
    obtain ⟨hP, hD⟩ := va_join (wr := []) (w1 := []) hP hD [0, 1, 2, 3, 4, 5, 6, 7] [] rfl rfl (by decide) (by decide) hk1 hFc va_P0 va_D0
    generalize H1 = H at hP hS ⊢
    have hP : va_P (dC, dI) vwCl ([]) H := hP
    have hD : va_D A ([]) := hD
    rcases hw with ⟨c635_, rfl⟩ | ⟨c636_, c637_, rfl⟩ | ⟨c638_, c639_, c640_, rfl⟩ | ⟨c641_, c642_, c643_, c644_, rfl⟩ | ⟨c645_, c646_, c647_, c648_, c649_, rfl⟩
    · skip
      exfalso
      have z0_ := tz_nlt_r c583_ (show (0 : Int32).toInt = 0 by decide)
      have z1_ := tz_le_r c584_ (show (3 : Int32).toInt = 3 by decide)
      have z2_ := tz_lt_r c635_ (show (0 : Int32).toInt = 0 by decide)
      omega
    · skip
      exfalso
      have z0_ := tz_nlt_r c583_ (show (0 : Int32).toInt = 0 by decide)
      have z1_ := tz_le_r c584_ (show (3 : Int32).toInt = 3 by decide)
      have z2_ := tz_lt_l c637_ (show (3 : Int32).toInt = 3 by decide)
      omega
    · skip
      exfalso
      have z0_ := tz_neq_r c585_ (show (0 : Int32).toInt = 0 by decide)
      have z1_ := tz_nlt_r c586_ (show (0 : Int32).toInt = 0 by decide)
      have z2_ := tz_le_l c587_ (show (1 : Int32).toInt = 1 by decide)
      have z3_ := tz_eq_r c640_ (show (0 : Int32).toInt = 0 by decide)
      omega
    · skip
      exfalso
      have z0_ := tz_neq_r c585_ (show (0 : Int32).toInt = 0 by decide)
      have z1_ := tz_nlt_r c586_ (show (0 : Int32).toInt = 0 by decide)
      have z2_ := tz_le_l c587_ (show (1 : Int32).toInt = 1 by decide)
      have z3_ := tz_lt_r c644_ (show (0 : Int32).toInt = 0 by decide)
      omega
    · skip
      refine lv_icmp_eq (tgt := 983) hx hb dL_law_400 (by decide) (fun _ => ?_) (fun c9_ => absurd (by decide) c9_)
      refine lv_iinc (v := 6) (lv' := [(3, .int 6), (2, .ref (b 0)), (1, .ref (a 0)), (0, .ref sc)]) hx hb dL_law_983 hl (k := 0) rfl (by decide) (by decide) rfl (fun ls hl => ?_)
      refine lv_goto (tgt := 18) hx hb dL_law_986 (by decide) ?_
      refine lv_iload_n hx hb dL_law_18 rfl (lv_at hl 0 rfl) ?_
      refine lv_aload_n hx hb dL_law_19 rfl (lv_at hl 3 rfl) ?_
      refine va_slen hx hb hX hbl hbA hS dL_law_20 ?_
      refine tk_i 6 (by decide) ?_
      refine lv_bipush (v := 6) hx hb dL_law_21 (by decide) ?_
      refine lv_isub hx hb dL_law_23 ?_
      refine tk_i 0 (by decide) ?_
      refine lv_icmp_gt (tgt := 989) hx hb dL_law_24 (by decide) (fun _ => ?_) (fun c9_ => absurd (by decide) c9_)
      refine lv_iconst (v := 1) hx hb dL_law_989 (by decide) ?_
      refine va_forget (fun q hq => by have h := hS.2.2 q hq; rw [hAe] at h; exact h) ?_
      refine W.widen (k := 600000) (n := 7302249) (Nat.le_of_ble_eq_true rfl) (Nat.le_of_ble_eq_true rfl) ?_
      exact lw_ret hx hb hr hlocks dL_law_990
  · skip
    refine lv_aload_n hx hb dL_law_386 rfl (lv_at hl 1 rfl) ?_
    refine lv_aload_n hx hb dL_law_387 rfl (lv_at hl 3 rfl) ?_
    refine lv_iload_n hx hb dL_law_388 rfl (lv_at hl 0 rfl) ?_
    refine lv_iconst (v := 1) hx hb dL_law_389 (by decide) ?_
    refine lv_iadd hx hb dL_law_390 ?_
    refine tk_i 1 (by decide) ?_
    refine va_sld hx hb hX hbl hbA hS (show ¬ ((1 : Int32) < 0 ∨ 6 ≤ Int32.toNatClampNeg 1) by decide) dL_law_391 ?_
    refine tk_i x1 ex1 ?_
    refine lv_aload_n hx hb dL_law_392 rfl (lv_at hl 3 rfl) ?_
    refine lv_iload_n hx hb dL_law_393 rfl (lv_at hl 0 rfl) ?_
    refine lv_iconst (v := 2) hx hb dL_law_394 (by decide) ?_
    refine lv_iadd hx hb dL_law_395 ?_
    refine tk_i 2 (by decide) ?_
    refine va_sld hx hb hX hbl hbA hS (show ¬ ((2 : Int32) < 0 ∨ 6 ≤ Int32.toNatClampNeg 2) by decide) dL_law_396 ?_
    refine tk_i x2 ex2 ?_
    have hPc : va_P (dC, dI) vwCl (mw b cy) _ := hP.sub [0, 1, 2, 3, 4, 5, 6, 7] rfl
    have hDc := hD.sub (ws' := mw b cy) [0, 1, 2, 3, 4, 5, 6, 7] (by decide) rfl
    have hFc := va_free (wc := mw b cy) hD hS hA [0, 1, 2, 3, 4, 5, 6, 7] rfl
    refine va_calli (va_runV (As := [.int x1, .int x2]) (rest := [.int (-1)]) ⟨hx, hb, hml, hown, hts⟩ (c_X12_power l dC dI cy b _ x1 x2) (cwV 2 hts g_L_law_X12_power_45 rfl rfl rfl (by decide +kernel) ⟨Nat.le_of_ble_eq_true rfl, Nat.le_of_ble_eq_true rfl⟩) (pv_ps hC hPc hDc (ci := 12) (q0 := 0) rfl rfl) rfl rfl hl.1 rfl (lv_room (Nat.le_of_ble_eq_true rfl)) dL_law_397 ⟨Nat.le_of_ble_eq_true rfl, Nat.le_of_ble_eq_true rfl⟩) hS (fun q _ h => hFc q h) hFc (fun r_ u t_ H1 locs ht hvm hw hB hz1 hk1 hS => ?_)
    obtain ⟨hP, hD⟩ := va_join (wr := []) (w1 := []) hP hD [0, 1, 2, 3, 4, 5, 6, 7] [] rfl rfl (by decide) (by decide) hk1 hFc va_P0 va_D0
    generalize H1 = H at hP hS ⊢
    have hP : va_P (dC, dI) vwCl ([]) H := hP
    have hD : va_D A ([]) := hD
    rcases hw with ⟨c650_, rfl⟩ | ⟨c651_, c652_, rfl⟩ | ⟨c653_, c654_, c655_, rfl⟩ | ⟨c656_, c657_, c658_, c659_, rfl⟩ | ⟨c660_, c661_, c662_, c663_, c664_, rfl⟩
    · skip
      exfalso
      have z0_ := tz_nlt_r c588_ (show (0 : Int32).toInt = 0 by decide)
      have z1_ := tz_nle_r c589_ (show (3 : Int32).toInt = 3 by decide)
      have z2_ := tz_lt_r c650_ (show (0 : Int32).toInt = 0 by decide)
      omega
    · skip
      refine lv_icmp_eq (tgt := 983) hx hb dL_law_400 (by decide) (fun _ => ?_) (fun c9_ => absurd (by decide) c9_)
      refine lv_iinc (v := 6) (lv' := [(3, .int 6), (2, .ref (b 0)), (1, .ref (a 0)), (0, .ref sc)]) hx hb dL_law_983 hl (k := 0) rfl (by decide) (by decide) rfl (fun ls hl => ?_)
      refine lv_goto (tgt := 18) hx hb dL_law_986 (by decide) ?_
      refine lv_iload_n hx hb dL_law_18 rfl (lv_at hl 0 rfl) ?_
      refine lv_aload_n hx hb dL_law_19 rfl (lv_at hl 3 rfl) ?_
      refine va_slen hx hb hX hbl hbA hS dL_law_20 ?_
      refine tk_i 6 (by decide) ?_
      refine lv_bipush (v := 6) hx hb dL_law_21 (by decide) ?_
      refine lv_isub hx hb dL_law_23 ?_
      refine tk_i 0 (by decide) ?_
      refine lv_icmp_gt (tgt := 989) hx hb dL_law_24 (by decide) (fun _ => ?_) (fun c9_ => absurd (by decide) c9_)
      refine lv_iconst (v := 1) hx hb dL_law_989 (by decide) ?_
      refine va_forget (fun q hq => by have h := hS.2.2 q hq; rw [hAe] at h; exact h) ?_
      refine W.widen (k := 600000) (n := 7302249) (Nat.le_of_ble_eq_true rfl) (Nat.le_of_ble_eq_true rfl) ?_
      exact lw_ret hx hb hr hlocks dL_law_990
    · skip
      exfalso
      have z0_ := tz_nlt_r c588_ (show (0 : Int32).toInt = 0 by decide)
      have z1_ := tz_nle_r c589_ (show (3 : Int32).toInt = 3 by decide)
      have z2_ := tz_nlt_l c654_ (show (3 : Int32).toInt = 3 by decide)
      omega
    · skip
      exfalso
      have z0_ := tz_nlt_r c588_ (show (0 : Int32).toInt = 0 by decide)
      have z1_ := tz_nle_r c589_ (show (3 : Int32).toInt = 3 by decide)
      have z2_ := tz_nlt_l c657_ (show (3 : Int32).toInt = 3 by decide)
      omega
    · skip
      exfalso
      have z0_ := tz_nlt_r c588_ (show (0 : Int32).toInt = 0 by decide)
      have z1_ := tz_nle_r c589_ (show (3 : Int32).toInt = 3 by decide)
      have z2_ := tz_nlt_l c661_ (show (3 : Int32).toInt = 3 by decide)
      omega
set_option maxHeartbeats 40000000 in
set_option maxRecDepth 100000 in
theorem lawc_7 {p : Program} {e : Env} {s : State} {m : MethodId} {below : List Frame} {meth : Method} {c : Code} (l : Launch) {sc : Nat} {xs : Nat → Int32} {A : Nat → Prop} {dC : Nat → ClassId} {dI : Nat → Nat → Nat} {cy : Nat → ClassId} {a b : Nat → Nat} {g : Nat → Nat → Option Nat} (hAe : A = fun q => s.heap.size ≤ q) (C0 : lw_At p s m meth c sc 6 xs) (hC : cK dC dI cy s) {H : Heap} {locs : List Loc} {ls : Array Slot} (hP : va_P (dC, dI) vwCl (fw a cy g ++ mw b cy) H) (hD : va_D A (fw a cy g ++ mw b cy)) (hS : va_S A s.heap H locs) (hl : lv_has ls 4 [(3, .int 0), (2, .ref (b 0)), (1, .ref (a 0)), (0, .ref sc)]) : W p l e room_1 s m #[Value.ref sc] below meth c H locs 1000 100000 (lw_Z below #[Value.ref sc] s) (F0 m 405 ls []) := by
  obtain ⟨hx, hb, hr, hml, hown, hts0, hX, hbl, hlocks, -⟩ := C0
  have hown : s.vm.findClass RL = some m.cls := hown
  have hts : ∀ w ∈ v_L_law, w.before #[Value.ref sc] s = true := fun w h => hts0 w (v_L_in w h)
  have hK := hC.1
  have hA : ∀ q : Nat, s.heap.size ≤ q → A q := fun q h => by rw [hAe]; exact h
  have hbA : ¬ A sc := by
    rw [hAe]
    exact Nat.not_le.mpr hbl
  obtain ⟨x0, ex0⟩ : ∃ z : Int32, xs (Int32.toNatClampNeg 0) = z := ⟨_, rfl⟩
  obtain ⟨x1, ex1⟩ : ∃ z : Int32, xs (Int32.toNatClampNeg 1) = z := ⟨_, rfl⟩
  obtain ⟨x2, ex2⟩ : ∃ z : Int32, xs (Int32.toNatClampNeg 2) = z := ⟨_, rfl⟩
  obtain ⟨x3, ex3⟩ : ∃ z : Int32, xs (Int32.toNatClampNeg 3) = z := ⟨_, rfl⟩
  obtain ⟨x4, ex4⟩ : ∃ z : Int32, xs (Int32.toNatClampNeg 4) = z := ⟨_, rfl⟩
  obtain ⟨x5, ex5⟩ : ∃ z : Int32, xs (Int32.toNatClampNeg 5) = z := ⟨_, rfl⟩
  refine lv_aload_n hx hb dL_law_405 rfl (lv_at hl 2 rfl) ?_
  refine lv_aload_n hx hb dL_law_406 rfl (lv_at hl 3 rfl) ?_
  refine lv_iload_n hx hb dL_law_407 rfl (lv_at hl 0 rfl) ?_
  refine lv_iconst (v := 1) hx hb dL_law_408 (by decide) ?_
  refine lv_iadd hx hb dL_law_409 ?_
  refine tk_i 1 (by decide) ?_
  refine va_sld hx hb hX hbl hbA hS (show ¬ ((1 : Int32) < 0 ∨ 6 ≤ Int32.toNatClampNeg 1) by decide) dL_law_410 ?_
  refine tk_i x1 ex1 ?_
  have hPc : va_P (dC, dI) vwCl (fw a cy g) _ := hP.sub [0, 1, 2, 3, 4, 5, 6, 7, 8, 9, 10, 11, 12, 13, 14, 15, 16, 17, 18, 19, 20, 21, 22, 23, 24, 25, 26, 27, 28, 29, 30, 31, 32, 33, 34, 35, 36, 37, 38, 39, 40, 41, 42, 43, 44, 45, 46, 47, 48, 49, 50, 51, 52, 53, 54, 55] rfl
  have hDc := hD.sub (ws' := fw a cy g) [0, 1, 2, 3, 4, 5, 6, 7, 8, 9, 10, 11, 12, 13, 14, 15, 16, 17, 18, 19, 20, 21, 22, 23, 24, 25, 26, 27, 28, 29, 30, 31, 32, 33, 34, 35, 36, 37, 38, 39, 40, 41, 42, 43, 44, 45, 46, 47, 48, 49, 50, 51, 52, 53, 54, 55] (by decide) rfl
  have hFc := va_free (wc := fw a cy g) hD hS hA [0, 1, 2, 3, 4, 5, 6, 7, 8, 9, 10, 11, 12, 13, 14, 15, 16, 17, 18, 19, 20, 21, 22, 23, 24, 25, 26, 27, 28, 29, 30, 31, 32, 33, 34, 35, 36, 37, 38, 39, 40, 41, 42, 43, 44, 45, 46, 47, 48, 49, 50, 51, 52, 53, 54, 55] rfl
  refine va_calli (va_runV (As := [.int x1]) (rest := []) ⟨hx, hb, hml, hown, hts⟩ (c_X11_arm l dC dI cy a g _ x1) (cwV 1 hts g_L_law_X11_arm_46 rfl rfl rfl (by decide +kernel) ⟨Nat.le_of_ble_eq_true rfl, Nat.le_of_ble_eq_true rfl⟩) (pv_ps hC hPc hDc (ci := 11) (q0 := 0) rfl rfl) rfl rfl hl.1 rfl (lv_room (Nat.le_of_ble_eq_true rfl)) dL_law_411 ⟨Nat.le_of_ble_eq_true rfl, Nat.le_of_ble_eq_true rfl⟩) hS (fun q _ h => hFc q h) hFc (fun r_ u t_ H1 locs ht hvm hw hB hz1 hk1 hS => ?_)
  obtain ⟨hP, hD⟩ := va_join (wr := mw b cy) (w1 := []) hP hD [0, 1, 2, 3, 4, 5, 6, 7, 8, 9, 10, 11, 12, 13, 14, 15, 16, 17, 18, 19, 20, 21, 22, 23, 24, 25, 26, 27, 28, 29, 30, 31, 32, 33, 34, 35, 36, 37, 38, 39, 40, 41, 42, 43, 44, 45, 46, 47, 48, 49, 50, 51, 52, 53, 54, 55] [56, 57, 58, 59, 60, 61, 62, 63] rfl rfl (by decide) (by decide) hk1 hFc va_P0 va_D0
  generalize H1 = H at hP hS ⊢
  have hP : va_P (dC, dI) vwCl (mw b cy) H := hP
  have hD : va_D A (mw b cy) := hD
  rcases hw with ⟨c665_, rfl⟩ | ⟨c666_, c667_, rfl⟩ | ⟨c668_, c669_, c670_, rfl⟩
  · skip
    subst c665_
    refine lv_aload_n hx hb dL_law_414 rfl (lv_at hl 1 rfl) ?_
    refine lv_aload_n hx hb dL_law_415 rfl (lv_at hl 3 rfl) ?_
    refine lv_iload_n hx hb dL_law_416 rfl (lv_at hl 0 rfl) ?_
    refine lv_iconst (v := 1) hx hb dL_law_417 (by decide) ?_
    refine lv_iadd hx hb dL_law_418 ?_
    refine tk_i 1 (by decide) ?_
    refine va_sld hx hb hX hbl hbA hS (show ¬ ((1 : Int32) < 0 ∨ 6 ≤ Int32.toNatClampNeg 1) by decide) dL_law_419 ?_
    refine tk_i 0 ex1 ?_
    have hPc : va_P (dC, dI) vwCl (mw b cy) _ := hP.sub [0, 1, 2, 3, 4, 5, 6, 7] rfl
    have hDc := hD.sub (ws' := mw b cy) [0, 1, 2, 3, 4, 5, 6, 7] (by decide) rfl
    have hFc := va_free (wc := mw b cy) hD hS hA [0, 1, 2, 3, 4, 5, 6, 7] rfl
    refine va_calli (va_runV (As := [.int 0]) (rest := [.int (-2)]) ⟨hx, hb, hml, hown, hts⟩ (c_X12_arm l dC dI cy b _ 0) (cwV 1 hts g_L_law_X12_arm_49 rfl rfl rfl (by decide +kernel) ⟨Nat.le_of_ble_eq_true rfl, Nat.le_of_ble_eq_true rfl⟩) (pv_ps hC hPc hDc (ci := 12) (q0 := 0) rfl rfl) rfl rfl hl.1 rfl (lv_room (Nat.le_of_ble_eq_true rfl)) dL_law_420 ⟨Nat.le_of_ble_eq_true rfl, Nat.le_of_ble_eq_true rfl⟩) hS (fun q _ h => hFc q h) hFc (fun r_ u t_ H1 locs ht hvm hw hB hz1 hk1 hS => ?_)
    obtain ⟨hP, hD⟩ := va_join (wr := []) (w1 := []) hP hD [0, 1, 2, 3, 4, 5, 6, 7] [] rfl rfl (by decide) (by decide) hk1 hFc va_P0 va_D0
    generalize H1 = H at hP hS ⊢
    have hP : va_P (dC, dI) vwCl ([]) H := hP
    have hD : va_D A ([]) := hD
    rcases hw with ⟨-, rfl⟩ | ⟨c672_, c673_, rfl⟩ | ⟨c674_, -, c676_, rfl⟩
    · skip
      refine lv_icmp_eq (tgt := 983) hx hb dL_law_423 (by decide) (fun _ => ?_) (fun c9_ => absurd (by decide) c9_)
      refine lv_iinc (v := 6) (lv' := [(3, .int 6), (2, .ref (b 0)), (1, .ref (a 0)), (0, .ref sc)]) hx hb dL_law_983 hl (k := 0) rfl (by decide) (by decide) rfl (fun ls hl => ?_)
      refine lv_goto (tgt := 18) hx hb dL_law_986 (by decide) ?_
      refine lv_iload_n hx hb dL_law_18 rfl (lv_at hl 0 rfl) ?_
      refine lv_aload_n hx hb dL_law_19 rfl (lv_at hl 3 rfl) ?_
      refine va_slen hx hb hX hbl hbA hS dL_law_20 ?_
      refine tk_i 6 (by decide) ?_
      refine lv_bipush (v := 6) hx hb dL_law_21 (by decide) ?_
      refine lv_isub hx hb dL_law_23 ?_
      refine tk_i 0 (by decide) ?_
      refine lv_icmp_gt (tgt := 989) hx hb dL_law_24 (by decide) (fun _ => ?_) (fun c9_ => absurd (by decide) c9_)
      refine lv_iconst (v := 1) hx hb dL_law_989 (by decide) ?_
      refine va_forget (fun q hq => by have h := hS.2.2 q hq; rw [hAe] at h; exact h) ?_
      refine W.widen (k := 600000) (n := 7302249) (Nat.le_of_ble_eq_true rfl) (Nat.le_of_ble_eq_true rfl) ?_
      exact lw_ret hx hb hr hlocks dL_law_990
    · skip
      exact absurd c673_ (by decide)
    · skip
      exact absurd c676_ (by decide)
  · skip
    refine lv_aload_n hx hb dL_law_414 rfl (lv_at hl 1 rfl) ?_
    refine lv_aload_n hx hb dL_law_415 rfl (lv_at hl 3 rfl) ?_
    refine lv_iload_n hx hb dL_law_416 rfl (lv_at hl 0 rfl) ?_
    refine lv_iconst (v := 1) hx hb dL_law_417 (by decide) ?_
    refine lv_iadd hx hb dL_law_418 ?_
    refine tk_i 1 (by decide) ?_
    refine va_sld hx hb hX hbl hbA hS (show ¬ ((1 : Int32) < 0 ∨ 6 ≤ Int32.toNatClampNeg 1) by decide) dL_law_419 ?_
    refine tk_i x1 ex1 ?_
    have hPc : va_P (dC, dI) vwCl (mw b cy) _ := hP.sub [0, 1, 2, 3, 4, 5, 6, 7] rfl
    have hDc := hD.sub (ws' := mw b cy) [0, 1, 2, 3, 4, 5, 6, 7] (by decide) rfl
    have hFc := va_free (wc := mw b cy) hD hS hA [0, 1, 2, 3, 4, 5, 6, 7] rfl
    refine va_calli (va_runV (As := [.int x1]) (rest := [.int (-2)]) ⟨hx, hb, hml, hown, hts⟩ (c_X12_arm l dC dI cy b _ x1) (cwV 1 hts g_L_law_X12_arm_49 rfl rfl rfl (by decide +kernel) ⟨Nat.le_of_ble_eq_true rfl, Nat.le_of_ble_eq_true rfl⟩) (pv_ps hC hPc hDc (ci := 12) (q0 := 0) rfl rfl) rfl rfl hl.1 rfl (lv_room (Nat.le_of_ble_eq_true rfl)) dL_law_420 ⟨Nat.le_of_ble_eq_true rfl, Nat.le_of_ble_eq_true rfl⟩) hS (fun q _ h => hFc q h) hFc (fun r_ u t_ H1 locs ht hvm hw hB hz1 hk1 hS => ?_)
    obtain ⟨hP, hD⟩ := va_join (wr := []) (w1 := []) hP hD [0, 1, 2, 3, 4, 5, 6, 7] [] rfl rfl (by decide) (by decide) hk1 hFc va_P0 va_D0
    generalize H1 = H at hP hS ⊢
    have hP : va_P (dC, dI) vwCl ([]) H := hP
    have hD : va_D A ([]) := hD
    rcases hw with ⟨c677_, rfl⟩ | ⟨c678_, c679_, rfl⟩ | ⟨c680_, c681_, c682_, rfl⟩
    · skip
      exfalso
      have z0_ := tz_neq_r c666_ (show (0 : Int32).toInt = 0 by decide)
      have z1_ := tz_lt_r c667_ (show (0 : Int32).toInt = 0 by decide)
      have z2_ := tz_eq_r c677_ (show (0 : Int32).toInt = 0 by decide)
      omega
    · skip
      refine lv_icmp_eq (tgt := 983) hx hb dL_law_423 (by decide) (fun _ => ?_) (fun c9_ => absurd (by decide) c9_)
      refine lv_iinc (v := 6) (lv' := [(3, .int 6), (2, .ref (b 0)), (1, .ref (a 0)), (0, .ref sc)]) hx hb dL_law_983 hl (k := 0) rfl (by decide) (by decide) rfl (fun ls hl => ?_)
      refine lv_goto (tgt := 18) hx hb dL_law_986 (by decide) ?_
      refine lv_iload_n hx hb dL_law_18 rfl (lv_at hl 0 rfl) ?_
      refine lv_aload_n hx hb dL_law_19 rfl (lv_at hl 3 rfl) ?_
      refine va_slen hx hb hX hbl hbA hS dL_law_20 ?_
      refine tk_i 6 (by decide) ?_
      refine lv_bipush (v := 6) hx hb dL_law_21 (by decide) ?_
      refine lv_isub hx hb dL_law_23 ?_
      refine tk_i 0 (by decide) ?_
      refine lv_icmp_gt (tgt := 989) hx hb dL_law_24 (by decide) (fun _ => ?_) (fun c9_ => absurd (by decide) c9_)
      refine lv_iconst (v := 1) hx hb dL_law_989 (by decide) ?_
      refine va_forget (fun q hq => by have h := hS.2.2 q hq; rw [hAe] at h; exact h) ?_
      refine W.widen (k := 600000) (n := 7302249) (Nat.le_of_ble_eq_true rfl) (Nat.le_of_ble_eq_true rfl) ?_
      exact lw_ret hx hb hr hlocks dL_law_990
    · skip
      exfalso
      have z0_ := tz_neq_r c666_ (show (0 : Int32).toInt = 0 by decide)
      have z1_ := tz_lt_r c667_ (show (0 : Int32).toInt = 0 by decide)
      have z2_ := tz_nlt_r c681_ (show (0 : Int32).toInt = 0 by decide)
      omega
  · skip
    refine lv_aload_n hx hb dL_law_414 rfl (lv_at hl 1 rfl) ?_
    refine lv_aload_n hx hb dL_law_415 rfl (lv_at hl 3 rfl) ?_
    refine lv_iload_n hx hb dL_law_416 rfl (lv_at hl 0 rfl) ?_
    refine lv_iconst (v := 1) hx hb dL_law_417 (by decide) ?_
    refine lv_iadd hx hb dL_law_418 ?_
    refine tk_i 1 (by decide) ?_
    refine va_sld hx hb hX hbl hbA hS (show ¬ ((1 : Int32) < 0 ∨ 6 ≤ Int32.toNatClampNeg 1) by decide) dL_law_419 ?_
    refine tk_i x1 ex1 ?_
    have hPc : va_P (dC, dI) vwCl (mw b cy) _ := hP.sub [0, 1, 2, 3, 4, 5, 6, 7] rfl
    have hDc := hD.sub (ws' := mw b cy) [0, 1, 2, 3, 4, 5, 6, 7] (by decide) rfl
    have hFc := va_free (wc := mw b cy) hD hS hA [0, 1, 2, 3, 4, 5, 6, 7] rfl
    refine va_calli (va_runV (As := [.int x1]) (rest := [.int (-2)]) ⟨hx, hb, hml, hown, hts⟩ (c_X12_arm l dC dI cy b _ x1) (cwV 1 hts g_L_law_X12_arm_49 rfl rfl rfl (by decide +kernel) ⟨Nat.le_of_ble_eq_true rfl, Nat.le_of_ble_eq_true rfl⟩) (pv_ps hC hPc hDc (ci := 12) (q0 := 0) rfl rfl) rfl rfl hl.1 rfl (lv_room (Nat.le_of_ble_eq_true rfl)) dL_law_420 ⟨Nat.le_of_ble_eq_true rfl, Nat.le_of_ble_eq_true rfl⟩) hS (fun q _ h => hFc q h) hFc (fun r_ u t_ H1 locs ht hvm hw hB hz1 hk1 hS => ?_)
    obtain ⟨hP, hD⟩ := va_join (wr := []) (w1 := []) hP hD [0, 1, 2, 3, 4, 5, 6, 7] [] rfl rfl (by decide) (by decide) hk1 hFc va_P0 va_D0
    generalize H1 = H at hP hS ⊢
    have hP : va_P (dC, dI) vwCl ([]) H := hP
    have hD : va_D A ([]) := hD
    rcases hw with ⟨c683_, rfl⟩ | ⟨c684_, c685_, rfl⟩ | ⟨c686_, c687_, c688_, rfl⟩
    · skip
      exfalso
      have z0_ := tz_neq_r c668_ (show (0 : Int32).toInt = 0 by decide)
      have z1_ := tz_nlt_r c669_ (show (0 : Int32).toInt = 0 by decide)
      have z2_ := tz_le_l c670_ (show (1 : Int32).toInt = 1 by decide)
      have z3_ := tz_eq_r c683_ (show (0 : Int32).toInt = 0 by decide)
      omega
    · skip
      exfalso
      have z0_ := tz_neq_r c668_ (show (0 : Int32).toInt = 0 by decide)
      have z1_ := tz_nlt_r c669_ (show (0 : Int32).toInt = 0 by decide)
      have z2_ := tz_le_l c670_ (show (1 : Int32).toInt = 1 by decide)
      have z3_ := tz_lt_r c685_ (show (0 : Int32).toInt = 0 by decide)
      omega
    · skip
      refine lv_icmp_eq (tgt := 983) hx hb dL_law_423 (by decide) (fun _ => ?_) (fun c9_ => absurd (by decide) c9_)
      refine lv_iinc (v := 6) (lv' := [(3, .int 6), (2, .ref (b 0)), (1, .ref (a 0)), (0, .ref sc)]) hx hb dL_law_983 hl (k := 0) rfl (by decide) (by decide) rfl (fun ls hl => ?_)
      refine lv_goto (tgt := 18) hx hb dL_law_986 (by decide) ?_
      refine lv_iload_n hx hb dL_law_18 rfl (lv_at hl 0 rfl) ?_
      refine lv_aload_n hx hb dL_law_19 rfl (lv_at hl 3 rfl) ?_
      refine va_slen hx hb hX hbl hbA hS dL_law_20 ?_
      refine tk_i 6 (by decide) ?_
      refine lv_bipush (v := 6) hx hb dL_law_21 (by decide) ?_
      refine lv_isub hx hb dL_law_23 ?_
      refine tk_i 0 (by decide) ?_
      refine lv_icmp_gt (tgt := 989) hx hb dL_law_24 (by decide) (fun _ => ?_) (fun c9_ => absurd (by decide) c9_)
      refine lv_iconst (v := 1) hx hb dL_law_989 (by decide) ?_
      refine va_forget (fun q hq => by have h := hS.2.2 q hq; rw [hAe] at h; exact h) ?_
      refine W.widen (k := 600000) (n := 7302249) (Nat.le_of_ble_eq_true rfl) (Nat.le_of_ble_eq_true rfl) ?_
      exact lw_ret hx hb hr hlocks dL_law_990
set_option maxHeartbeats 40000000 in
set_option maxRecDepth 100000 in
theorem lawc_8 {p : Program} {e : Env} {s : State} {m : MethodId} {below : List Frame} {meth : Method} {c : Code} (l : Launch) {sc : Nat} {xs : Nat → Int32} {A : Nat → Prop} {dC : Nat → ClassId} {dI : Nat → Nat → Nat} {cy : Nat → ClassId} {a b : Nat → Nat} {g : Nat → Nat → Option Nat} (hAe : A = fun q => s.heap.size ≤ q) (C0 : lw_At p s m meth c sc 6 xs) (hC : cK dC dI cy s) {H : Heap} {locs : List Loc} {ls : Array Slot} (hP : va_P (dC, dI) vwCl (fw a cy g ++ mw b cy) H) (hD : va_D A (fw a cy g ++ mw b cy)) (hS : va_S A s.heap H locs) (hl : lv_has ls 4 [(3, .int 0), (2, .ref (b 0)), (1, .ref (a 0)), (0, .ref sc)]) : W p l e room_1 s m #[Value.ref sc] below meth c H locs 1000 100000 (lw_Z below #[Value.ref sc] s) (F0 m 428 ls []) := by
  obtain ⟨hx, hb, hr, hml, hown, hts0, hX, hbl, hlocks, -⟩ := C0
  have hown : s.vm.findClass RL = some m.cls := hown
  have hts : ∀ w ∈ v_L_law, w.before #[Value.ref sc] s = true := fun w h => hts0 w (v_L_in w h)
  have hK := hC.1
  have hA : ∀ q : Nat, s.heap.size ≤ q → A q := fun q h => by rw [hAe]; exact h
  have hbA : ¬ A sc := by
    rw [hAe]
    exact Nat.not_le.mpr hbl
  obtain ⟨x0, ex0⟩ : ∃ z : Int32, xs (Int32.toNatClampNeg 0) = z := ⟨_, rfl⟩
  obtain ⟨x1, ex1⟩ : ∃ z : Int32, xs (Int32.toNatClampNeg 1) = z := ⟨_, rfl⟩
  obtain ⟨x2, ex2⟩ : ∃ z : Int32, xs (Int32.toNatClampNeg 2) = z := ⟨_, rfl⟩
  obtain ⟨x3, ex3⟩ : ∃ z : Int32, xs (Int32.toNatClampNeg 3) = z := ⟨_, rfl⟩
  obtain ⟨x4, ex4⟩ : ∃ z : Int32, xs (Int32.toNatClampNeg 4) = z := ⟨_, rfl⟩
  obtain ⟨x5, ex5⟩ : ∃ z : Int32, xs (Int32.toNatClampNeg 5) = z := ⟨_, rfl⟩
  refine lv_aload_n hx hb dL_law_428 rfl (lv_at hl 2 rfl) ?_
  refine lv_aload_n hx hb dL_law_429 rfl (lv_at hl 3 rfl) ?_
  refine lv_iload_n hx hb dL_law_430 rfl (lv_at hl 0 rfl) ?_
  refine lv_iconst (v := 1) hx hb dL_law_431 (by decide) ?_
  refine lv_iadd hx hb dL_law_432 ?_
  refine tk_i 1 (by decide) ?_
  refine va_sld hx hb hX hbl hbA hS (show ¬ ((1 : Int32) < 0 ∨ 6 ≤ Int32.toNatClampNeg 1) by decide) dL_law_433 ?_
  refine tk_i x1 ex1 ?_
  have hPc : va_P (dC, dI) vwCl (fw a cy g) _ := hP.sub [0, 1, 2, 3, 4, 5, 6, 7, 8, 9, 10, 11, 12, 13, 14, 15, 16, 17, 18, 19, 20, 21, 22, 23, 24, 25, 26, 27, 28, 29, 30, 31, 32, 33, 34, 35, 36, 37, 38, 39, 40, 41, 42, 43, 44, 45, 46, 47, 48, 49, 50, 51, 52, 53, 54, 55] rfl
  have hDc := hD.sub (ws' := fw a cy g) [0, 1, 2, 3, 4, 5, 6, 7, 8, 9, 10, 11, 12, 13, 14, 15, 16, 17, 18, 19, 20, 21, 22, 23, 24, 25, 26, 27, 28, 29, 30, 31, 32, 33, 34, 35, 36, 37, 38, 39, 40, 41, 42, 43, 44, 45, 46, 47, 48, 49, 50, 51, 52, 53, 54, 55] (by decide) rfl
  have hFc := va_free (wc := fw a cy g) hD hS hA [0, 1, 2, 3, 4, 5, 6, 7, 8, 9, 10, 11, 12, 13, 14, 15, 16, 17, 18, 19, 20, 21, 22, 23, 24, 25, 26, 27, 28, 29, 30, 31, 32, 33, 34, 35, 36, 37, 38, 39, 40, 41, 42, 43, 44, 45, 46, 47, 48, 49, 50, 51, 52, 53, 54, 55] rfl
  refine va_calli (va_runV (As := [.int x1]) (rest := []) ⟨hx, hb, hml, hown, hts⟩ (c_X11_disarm l dC dI cy a g _ x1) (cwV 1 hts g_L_law_X11_disarm_50 rfl rfl rfl (by decide +kernel) ⟨Nat.le_of_ble_eq_true rfl, Nat.le_of_ble_eq_true rfl⟩) (pv_ps hC hPc hDc (ci := 11) (q0 := 0) rfl rfl) rfl rfl hl.1 rfl (lv_room (Nat.le_of_ble_eq_true rfl)) dL_law_434 ⟨Nat.le_of_ble_eq_true rfl, Nat.le_of_ble_eq_true rfl⟩) hS (fun q _ h => hFc q h) hFc (fun r_ u t_ H1 locs ht hvm hw hB hz1 hk1 hS => ?_)
  obtain ⟨hP, hD⟩ := va_join (wr := mw b cy) (w1 := []) hP hD [0, 1, 2, 3, 4, 5, 6, 7, 8, 9, 10, 11, 12, 13, 14, 15, 16, 17, 18, 19, 20, 21, 22, 23, 24, 25, 26, 27, 28, 29, 30, 31, 32, 33, 34, 35, 36, 37, 38, 39, 40, 41, 42, 43, 44, 45, 46, 47, 48, 49, 50, 51, 52, 53, 54, 55] [56, 57, 58, 59, 60, 61, 62, 63] rfl rfl (by decide) (by decide) hk1 hFc va_P0 va_D0
  generalize H1 = H at hP hS ⊢
  have hP : va_P (dC, dI) vwCl (mw b cy) H := hP
  have hD : va_D A (mw b cy) := hD
  rcases hw with ⟨c689_, rfl⟩ | ⟨c690_, c691_, rfl⟩ | ⟨c692_, c693_, c694_, rfl⟩
  · skip
    subst c689_
    refine lv_aload_n hx hb dL_law_437 rfl (lv_at hl 1 rfl) ?_
    refine lv_aload_n hx hb dL_law_438 rfl (lv_at hl 3 rfl) ?_
    refine lv_iload_n hx hb dL_law_439 rfl (lv_at hl 0 rfl) ?_
    refine lv_iconst (v := 1) hx hb dL_law_440 (by decide) ?_
    refine lv_iadd hx hb dL_law_441 ?_
    refine tk_i 1 (by decide) ?_
    refine va_sld hx hb hX hbl hbA hS (show ¬ ((1 : Int32) < 0 ∨ 6 ≤ Int32.toNatClampNeg 1) by decide) dL_law_442 ?_
    refine tk_i 0 ex1 ?_
    have hPc : va_P (dC, dI) vwCl (mw b cy) _ := hP.sub [0, 1, 2, 3, 4, 5, 6, 7] rfl
    have hDc := hD.sub (ws' := mw b cy) [0, 1, 2, 3, 4, 5, 6, 7] (by decide) rfl
    have hFc := va_free (wc := mw b cy) hD hS hA [0, 1, 2, 3, 4, 5, 6, 7] rfl
    refine va_calli (va_runV (As := [.int 0]) (rest := [.int (-2)]) ⟨hx, hb, hml, hown, hts⟩ (c_X12_disarm l dC dI cy b _ 0) (cwV 1 hts g_L_law_X12_disarm_53 rfl rfl rfl (by decide +kernel) ⟨Nat.le_of_ble_eq_true rfl, Nat.le_of_ble_eq_true rfl⟩) (pv_ps hC hPc hDc (ci := 12) (q0 := 0) rfl rfl) rfl rfl hl.1 rfl (lv_room (Nat.le_of_ble_eq_true rfl)) dL_law_443 ⟨Nat.le_of_ble_eq_true rfl, Nat.le_of_ble_eq_true rfl⟩) hS (fun q _ h => hFc q h) hFc (fun r_ u t_ H1 locs ht hvm hw hB hz1 hk1 hS => ?_)
    obtain ⟨hP, hD⟩ := va_join (wr := []) (w1 := []) hP hD [0, 1, 2, 3, 4, 5, 6, 7] [] rfl rfl (by decide) (by decide) hk1 hFc va_P0 va_D0
    generalize H1 = H at hP hS ⊢
    have hP : va_P (dC, dI) vwCl ([]) H := hP
    have hD : va_D A ([]) := hD
    rcases hw with ⟨-, rfl⟩ | ⟨c696_, c697_, rfl⟩ | ⟨c698_, -, c700_, rfl⟩
    · skip
      refine lv_icmp_eq (tgt := 983) hx hb dL_law_446 (by decide) (fun _ => ?_) (fun c9_ => absurd (by decide) c9_)
      refine lv_iinc (v := 6) (lv' := [(3, .int 6), (2, .ref (b 0)), (1, .ref (a 0)), (0, .ref sc)]) hx hb dL_law_983 hl (k := 0) rfl (by decide) (by decide) rfl (fun ls hl => ?_)
      refine lv_goto (tgt := 18) hx hb dL_law_986 (by decide) ?_
      refine lv_iload_n hx hb dL_law_18 rfl (lv_at hl 0 rfl) ?_
      refine lv_aload_n hx hb dL_law_19 rfl (lv_at hl 3 rfl) ?_
      refine va_slen hx hb hX hbl hbA hS dL_law_20 ?_
      refine tk_i 6 (by decide) ?_
      refine lv_bipush (v := 6) hx hb dL_law_21 (by decide) ?_
      refine lv_isub hx hb dL_law_23 ?_
      refine tk_i 0 (by decide) ?_
      refine lv_icmp_gt (tgt := 989) hx hb dL_law_24 (by decide) (fun _ => ?_) (fun c9_ => absurd (by decide) c9_)
      refine lv_iconst (v := 1) hx hb dL_law_989 (by decide) ?_
      refine va_forget (fun q hq => by have h := hS.2.2 q hq; rw [hAe] at h; exact h) ?_
      refine W.widen (k := 600000) (n := 7302249) (Nat.le_of_ble_eq_true rfl) (Nat.le_of_ble_eq_true rfl) ?_
      exact lw_ret hx hb hr hlocks dL_law_990
    · skip
      exact absurd c697_ (by decide)
    · skip
      exact absurd c700_ (by decide)
  · skip
    refine lv_aload_n hx hb dL_law_437 rfl (lv_at hl 1 rfl) ?_
    refine lv_aload_n hx hb dL_law_438 rfl (lv_at hl 3 rfl) ?_
    refine lv_iload_n hx hb dL_law_439 rfl (lv_at hl 0 rfl) ?_
    refine lv_iconst (v := 1) hx hb dL_law_440 (by decide) ?_
    refine lv_iadd hx hb dL_law_441 ?_
    refine tk_i 1 (by decide) ?_
    refine va_sld hx hb hX hbl hbA hS (show ¬ ((1 : Int32) < 0 ∨ 6 ≤ Int32.toNatClampNeg 1) by decide) dL_law_442 ?_
    refine tk_i x1 ex1 ?_
    have hPc : va_P (dC, dI) vwCl (mw b cy) _ := hP.sub [0, 1, 2, 3, 4, 5, 6, 7] rfl
    have hDc := hD.sub (ws' := mw b cy) [0, 1, 2, 3, 4, 5, 6, 7] (by decide) rfl
    have hFc := va_free (wc := mw b cy) hD hS hA [0, 1, 2, 3, 4, 5, 6, 7] rfl
    refine va_calli (va_runV (As := [.int x1]) (rest := [.int (-2)]) ⟨hx, hb, hml, hown, hts⟩ (c_X12_disarm l dC dI cy b _ x1) (cwV 1 hts g_L_law_X12_disarm_53 rfl rfl rfl (by decide +kernel) ⟨Nat.le_of_ble_eq_true rfl, Nat.le_of_ble_eq_true rfl⟩) (pv_ps hC hPc hDc (ci := 12) (q0 := 0) rfl rfl) rfl rfl hl.1 rfl (lv_room (Nat.le_of_ble_eq_true rfl)) dL_law_443 ⟨Nat.le_of_ble_eq_true rfl, Nat.le_of_ble_eq_true rfl⟩) hS (fun q _ h => hFc q h) hFc (fun r_ u t_ H1 locs ht hvm hw hB hz1 hk1 hS => ?_)
    obtain ⟨hP, hD⟩ := va_join (wr := []) (w1 := []) hP hD [0, 1, 2, 3, 4, 5, 6, 7] [] rfl rfl (by decide) (by decide) hk1 hFc va_P0 va_D0
    generalize H1 = H at hP hS ⊢
    have hP : va_P (dC, dI) vwCl ([]) H := hP
    have hD : va_D A ([]) := hD
    rcases hw with ⟨c701_, rfl⟩ | ⟨c702_, c703_, rfl⟩ | ⟨c704_, c705_, c706_, rfl⟩
    · skip
      exfalso
      have z0_ := tz_neq_r c690_ (show (0 : Int32).toInt = 0 by decide)
      have z1_ := tz_lt_r c691_ (show (0 : Int32).toInt = 0 by decide)
      have z2_ := tz_eq_r c701_ (show (0 : Int32).toInt = 0 by decide)
      omega
    · skip
      refine lv_icmp_eq (tgt := 983) hx hb dL_law_446 (by decide) (fun _ => ?_) (fun c9_ => absurd (by decide) c9_)
      refine lv_iinc (v := 6) (lv' := [(3, .int 6), (2, .ref (b 0)), (1, .ref (a 0)), (0, .ref sc)]) hx hb dL_law_983 hl (k := 0) rfl (by decide) (by decide) rfl (fun ls hl => ?_)
      refine lv_goto (tgt := 18) hx hb dL_law_986 (by decide) ?_
      refine lv_iload_n hx hb dL_law_18 rfl (lv_at hl 0 rfl) ?_
      refine lv_aload_n hx hb dL_law_19 rfl (lv_at hl 3 rfl) ?_
      refine va_slen hx hb hX hbl hbA hS dL_law_20 ?_
      refine tk_i 6 (by decide) ?_
      refine lv_bipush (v := 6) hx hb dL_law_21 (by decide) ?_
      refine lv_isub hx hb dL_law_23 ?_
      refine tk_i 0 (by decide) ?_
      refine lv_icmp_gt (tgt := 989) hx hb dL_law_24 (by decide) (fun _ => ?_) (fun c9_ => absurd (by decide) c9_)
      refine lv_iconst (v := 1) hx hb dL_law_989 (by decide) ?_
      refine va_forget (fun q hq => by have h := hS.2.2 q hq; rw [hAe] at h; exact h) ?_
      refine W.widen (k := 600000) (n := 7302249) (Nat.le_of_ble_eq_true rfl) (Nat.le_of_ble_eq_true rfl) ?_
      exact lw_ret hx hb hr hlocks dL_law_990
    · skip
      exfalso
      have z0_ := tz_neq_r c690_ (show (0 : Int32).toInt = 0 by decide)
      have z1_ := tz_lt_r c691_ (show (0 : Int32).toInt = 0 by decide)
      have z2_ := tz_nlt_r c705_ (show (0 : Int32).toInt = 0 by decide)
      omega
  · skip
    refine lv_aload_n hx hb dL_law_437 rfl (lv_at hl 1 rfl) ?_
    refine lv_aload_n hx hb dL_law_438 rfl (lv_at hl 3 rfl) ?_
    refine lv_iload_n hx hb dL_law_439 rfl (lv_at hl 0 rfl) ?_
    refine lv_iconst (v := 1) hx hb dL_law_440 (by decide) ?_
    refine lv_iadd hx hb dL_law_441 ?_
    refine tk_i 1 (by decide) ?_
    refine va_sld hx hb hX hbl hbA hS (show ¬ ((1 : Int32) < 0 ∨ 6 ≤ Int32.toNatClampNeg 1) by decide) dL_law_442 ?_
    refine tk_i x1 ex1 ?_
    have hPc : va_P (dC, dI) vwCl (mw b cy) _ := hP.sub [0, 1, 2, 3, 4, 5, 6, 7] rfl
    have hDc := hD.sub (ws' := mw b cy) [0, 1, 2, 3, 4, 5, 6, 7] (by decide) rfl
    have hFc := va_free (wc := mw b cy) hD hS hA [0, 1, 2, 3, 4, 5, 6, 7] rfl
    refine va_calli (va_runV (As := [.int x1]) (rest := [.int (-2)]) ⟨hx, hb, hml, hown, hts⟩ (c_X12_disarm l dC dI cy b _ x1) (cwV 1 hts g_L_law_X12_disarm_53 rfl rfl rfl (by decide +kernel) ⟨Nat.le_of_ble_eq_true rfl, Nat.le_of_ble_eq_true rfl⟩) (pv_ps hC hPc hDc (ci := 12) (q0 := 0) rfl rfl) rfl rfl hl.1 rfl (lv_room (Nat.le_of_ble_eq_true rfl)) dL_law_443 ⟨Nat.le_of_ble_eq_true rfl, Nat.le_of_ble_eq_true rfl⟩) hS (fun q _ h => hFc q h) hFc (fun r_ u t_ H1 locs ht hvm hw hB hz1 hk1 hS => ?_)
    obtain ⟨hP, hD⟩ := va_join (wr := []) (w1 := []) hP hD [0, 1, 2, 3, 4, 5, 6, 7] [] rfl rfl (by decide) (by decide) hk1 hFc va_P0 va_D0
    generalize H1 = H at hP hS ⊢
    have hP : va_P (dC, dI) vwCl ([]) H := hP
    have hD : va_D A ([]) := hD
    rcases hw with ⟨c707_, rfl⟩ | ⟨c708_, c709_, rfl⟩ | ⟨c710_, c711_, c712_, rfl⟩
    · skip
      exfalso
      have z0_ := tz_neq_r c692_ (show (0 : Int32).toInt = 0 by decide)
      have z1_ := tz_nlt_r c693_ (show (0 : Int32).toInt = 0 by decide)
      have z2_ := tz_le_l c694_ (show (1 : Int32).toInt = 1 by decide)
      have z3_ := tz_eq_r c707_ (show (0 : Int32).toInt = 0 by decide)
      omega
    · skip
      exfalso
      have z0_ := tz_neq_r c692_ (show (0 : Int32).toInt = 0 by decide)
      have z1_ := tz_nlt_r c693_ (show (0 : Int32).toInt = 0 by decide)
      have z2_ := tz_le_l c694_ (show (1 : Int32).toInt = 1 by decide)
      have z3_ := tz_lt_r c709_ (show (0 : Int32).toInt = 0 by decide)
      omega
    · skip
      refine lv_icmp_eq (tgt := 983) hx hb dL_law_446 (by decide) (fun _ => ?_) (fun c9_ => absurd (by decide) c9_)
      refine lv_iinc (v := 6) (lv' := [(3, .int 6), (2, .ref (b 0)), (1, .ref (a 0)), (0, .ref sc)]) hx hb dL_law_983 hl (k := 0) rfl (by decide) (by decide) rfl (fun ls hl => ?_)
      refine lv_goto (tgt := 18) hx hb dL_law_986 (by decide) ?_
      refine lv_iload_n hx hb dL_law_18 rfl (lv_at hl 0 rfl) ?_
      refine lv_aload_n hx hb dL_law_19 rfl (lv_at hl 3 rfl) ?_
      refine va_slen hx hb hX hbl hbA hS dL_law_20 ?_
      refine tk_i 6 (by decide) ?_
      refine lv_bipush (v := 6) hx hb dL_law_21 (by decide) ?_
      refine lv_isub hx hb dL_law_23 ?_
      refine tk_i 0 (by decide) ?_
      refine lv_icmp_gt (tgt := 989) hx hb dL_law_24 (by decide) (fun _ => ?_) (fun c9_ => absurd (by decide) c9_)
      refine lv_iconst (v := 1) hx hb dL_law_989 (by decide) ?_
      refine va_forget (fun q hq => by have h := hS.2.2 q hq; rw [hAe] at h; exact h) ?_
      refine W.widen (k := 600000) (n := 7302249) (Nat.le_of_ble_eq_true rfl) (Nat.le_of_ble_eq_true rfl) ?_
      exact lw_ret hx hb hr hlocks dL_law_990
set_option maxHeartbeats 40000000 in
set_option maxRecDepth 100000 in
theorem lawc_9 {p : Program} {e : Env} {s : State} {m : MethodId} {below : List Frame} {meth : Method} {c : Code} (l : Launch) {sc : Nat} {xs : Nat → Int32} {A : Nat → Prop} {dC : Nat → ClassId} {dI : Nat → Nat → Nat} {cy : Nat → ClassId} {a b : Nat → Nat} {g : Nat → Nat → Option Nat} (hAe : A = fun q => s.heap.size ≤ q) (C0 : lw_At p s m meth c sc 6 xs) (hC : cK dC dI cy s) {H : Heap} {locs : List Loc} {ls : Array Slot} (hP : va_P (dC, dI) vwCl (fw a cy g ++ mw b cy) H) (hD : va_D A (fw a cy g ++ mw b cy)) (hS : va_S A s.heap H locs) (hl : lv_has ls 4 [(3, .int 0), (2, .ref (b 0)), (1, .ref (a 0)), (0, .ref sc)]) : W p l e room_1 s m #[Value.ref sc] below meth c H locs 1000 100000 (lw_Z below #[Value.ref sc] s) (F0 m 451 ls []) := by
  obtain ⟨hx, hb, hr, hml, hown, hts0, hX, hbl, hlocks, -⟩ := C0
  have hown : s.vm.findClass RL = some m.cls := hown
  have hts : ∀ w ∈ v_L_law, w.before #[Value.ref sc] s = true := fun w h => hts0 w (v_L_in w h)
  have hK := hC.1
  have hA : ∀ q : Nat, s.heap.size ≤ q → A q := fun q h => by rw [hAe]; exact h
  have hbA : ¬ A sc := by
    rw [hAe]
    exact Nat.not_le.mpr hbl
  obtain ⟨x0, ex0⟩ : ∃ z : Int32, xs (Int32.toNatClampNeg 0) = z := ⟨_, rfl⟩
  obtain ⟨x1, ex1⟩ : ∃ z : Int32, xs (Int32.toNatClampNeg 1) = z := ⟨_, rfl⟩
  obtain ⟨x2, ex2⟩ : ∃ z : Int32, xs (Int32.toNatClampNeg 2) = z := ⟨_, rfl⟩
  obtain ⟨x3, ex3⟩ : ∃ z : Int32, xs (Int32.toNatClampNeg 3) = z := ⟨_, rfl⟩
  obtain ⟨x4, ex4⟩ : ∃ z : Int32, xs (Int32.toNatClampNeg 4) = z := ⟨_, rfl⟩
  obtain ⟨x5, ex5⟩ : ∃ z : Int32, xs (Int32.toNatClampNeg 5) = z := ⟨_, rfl⟩
  refine lv_aload_n hx hb dL_law_451 rfl (lv_at hl 2 rfl) ?_
  refine lv_aload_n hx hb dL_law_452 rfl (lv_at hl 3 rfl) ?_
  refine lv_iload_n hx hb dL_law_453 rfl (lv_at hl 0 rfl) ?_
  refine lv_iconst (v := 1) hx hb dL_law_454 (by decide) ?_
  refine lv_iadd hx hb dL_law_455 ?_
  refine tk_i 1 (by decide) ?_
  refine va_sld hx hb hX hbl hbA hS (show ¬ ((1 : Int32) < 0 ∨ 6 ≤ Int32.toNatClampNeg 1) by decide) dL_law_456 ?_
  refine tk_i x1 ex1 ?_
  have hPc : va_P (dC, dI) vwCl (fw a cy g) _ := hP.sub [0, 1, 2, 3, 4, 5, 6, 7, 8, 9, 10, 11, 12, 13, 14, 15, 16, 17, 18, 19, 20, 21, 22, 23, 24, 25, 26, 27, 28, 29, 30, 31, 32, 33, 34, 35, 36, 37, 38, 39, 40, 41, 42, 43, 44, 45, 46, 47, 48, 49, 50, 51, 52, 53, 54, 55] rfl
  have hDc := hD.sub (ws' := fw a cy g) [0, 1, 2, 3, 4, 5, 6, 7, 8, 9, 10, 11, 12, 13, 14, 15, 16, 17, 18, 19, 20, 21, 22, 23, 24, 25, 26, 27, 28, 29, 30, 31, 32, 33, 34, 35, 36, 37, 38, 39, 40, 41, 42, 43, 44, 45, 46, 47, 48, 49, 50, 51, 52, 53, 54, 55] (by decide) rfl
  have hFc := va_free (wc := fw a cy g) hD hS hA [0, 1, 2, 3, 4, 5, 6, 7, 8, 9, 10, 11, 12, 13, 14, 15, 16, 17, 18, 19, 20, 21, 22, 23, 24, 25, 26, 27, 28, 29, 30, 31, 32, 33, 34, 35, 36, 37, 38, 39, 40, 41, 42, 43, 44, 45, 46, 47, 48, 49, 50, 51, 52, 53, 54, 55] rfl
  refine va_calli (va_runV (As := [.int x1]) (rest := []) ⟨hx, hb, hml, hown, hts⟩ (c_X11_rest l dC dI cy a g _ x1) (cwV 1 hts g_L_law_X11_rest_54 rfl rfl rfl (by decide +kernel) ⟨Nat.le_of_ble_eq_true rfl, Nat.le_of_ble_eq_true rfl⟩) (pv_ps hC hPc hDc (ci := 11) (q0 := 0) rfl rfl) rfl rfl hl.1 rfl (lv_room (Nat.le_of_ble_eq_true rfl)) dL_law_457 ⟨Nat.le_of_ble_eq_true rfl, Nat.le_of_ble_eq_true rfl⟩) hS (fun q _ h => hFc q h) hFc (fun r_ u t_ H1 locs ht hvm hw hB hz1 hk1 hS => ?_)
  obtain ⟨hP, hD⟩ := va_join (wr := mw b cy) (w1 := []) hP hD [0, 1, 2, 3, 4, 5, 6, 7, 8, 9, 10, 11, 12, 13, 14, 15, 16, 17, 18, 19, 20, 21, 22, 23, 24, 25, 26, 27, 28, 29, 30, 31, 32, 33, 34, 35, 36, 37, 38, 39, 40, 41, 42, 43, 44, 45, 46, 47, 48, 49, 50, 51, 52, 53, 54, 55] [56, 57, 58, 59, 60, 61, 62, 63] rfl rfl (by decide) (by decide) hk1 hFc va_P0 va_D0
  generalize H1 = H at hP hS ⊢
  have hP : va_P (dC, dI) vwCl (mw b cy) H := hP
  have hD : va_D A (mw b cy) := hD
  rcases hw with ⟨c713_, rfl⟩ | ⟨c714_, c715_, rfl⟩ | ⟨c716_, c717_, rfl⟩
  · skip
    refine lv_aload_n hx hb dL_law_460 rfl (lv_at hl 1 rfl) ?_
    refine lv_aload_n hx hb dL_law_461 rfl (lv_at hl 3 rfl) ?_
    refine lv_iload_n hx hb dL_law_462 rfl (lv_at hl 0 rfl) ?_
    refine lv_iconst (v := 1) hx hb dL_law_463 (by decide) ?_
    refine lv_iadd hx hb dL_law_464 ?_
    refine tk_i 1 (by decide) ?_
    refine va_sld hx hb hX hbl hbA hS (show ¬ ((1 : Int32) < 0 ∨ 6 ≤ Int32.toNatClampNeg 1) by decide) dL_law_465 ?_
    refine tk_i x1 ex1 ?_
    have hPc : va_P (dC, dI) vwCl (mw b cy) _ := hP.sub [0, 1, 2, 3, 4, 5, 6, 7] rfl
    have hDc := hD.sub (ws' := mw b cy) [0, 1, 2, 3, 4, 5, 6, 7] (by decide) rfl
    have hFc := va_free (wc := mw b cy) hD hS hA [0, 1, 2, 3, 4, 5, 6, 7] rfl
    refine va_calli (va_runV (As := [.int x1]) (rest := [.int (-1)]) ⟨hx, hb, hml, hown, hts⟩ (c_X12_rest l dC dI cy b _ x1) (cwV 1 hts g_L_law_X12_rest_57 rfl rfl rfl (by decide +kernel) ⟨Nat.le_of_ble_eq_true rfl, Nat.le_of_ble_eq_true rfl⟩) (pv_ps hC hPc hDc (ci := 12) (q0 := 0) rfl rfl) rfl rfl hl.1 rfl (lv_room (Nat.le_of_ble_eq_true rfl)) dL_law_466 ⟨Nat.le_of_ble_eq_true rfl, Nat.le_of_ble_eq_true rfl⟩) hS (fun q _ h => hFc q h) hFc (fun r_ u t_ H1 locs ht hvm hw hB hz1 hk1 hS => ?_)
    obtain ⟨hP, hD⟩ := va_join (wr := []) (w1 := []) hP hD [0, 1, 2, 3, 4, 5, 6, 7] [] rfl rfl (by decide) (by decide) hk1 hFc va_P0 va_D0
    generalize H1 = H at hP hS ⊢
    have hP : va_P (dC, dI) vwCl ([]) H := hP
    have hD : va_D A ([]) := hD
    rcases hw with ⟨c718_, rfl⟩ | ⟨c719_, c720_, rfl⟩ | ⟨c721_, c722_, rfl⟩
    · skip
      refine lv_icmp_eq (tgt := 983) hx hb dL_law_469 (by decide) (fun _ => ?_) (fun c9_ => absurd (by decide) c9_)
      refine lv_iinc (v := 6) (lv' := [(3, .int 6), (2, .ref (b 0)), (1, .ref (a 0)), (0, .ref sc)]) hx hb dL_law_983 hl (k := 0) rfl (by decide) (by decide) rfl (fun ls hl => ?_)
      refine lv_goto (tgt := 18) hx hb dL_law_986 (by decide) ?_
      refine lv_iload_n hx hb dL_law_18 rfl (lv_at hl 0 rfl) ?_
      refine lv_aload_n hx hb dL_law_19 rfl (lv_at hl 3 rfl) ?_
      refine va_slen hx hb hX hbl hbA hS dL_law_20 ?_
      refine tk_i 6 (by decide) ?_
      refine lv_bipush (v := 6) hx hb dL_law_21 (by decide) ?_
      refine lv_isub hx hb dL_law_23 ?_
      refine tk_i 0 (by decide) ?_
      refine lv_icmp_gt (tgt := 989) hx hb dL_law_24 (by decide) (fun _ => ?_) (fun c9_ => absurd (by decide) c9_)
      refine lv_iconst (v := 1) hx hb dL_law_989 (by decide) ?_
      refine va_forget (fun q hq => by have h := hS.2.2 q hq; rw [hAe] at h; exact h) ?_
      refine W.widen (k := 600000) (n := 7302249) (Nat.le_of_ble_eq_true rfl) (Nat.le_of_ble_eq_true rfl) ?_
      exact lw_ret hx hb hr hlocks dL_law_990
    · skip
      exfalso
      have z0_ := tz_lt_r c713_ (show (1 : Int32).toInt = 1 by decide)
      have z1_ := tz_nlt_r c719_ (show (1 : Int32).toInt = 1 by decide)
      omega
    · skip
      exfalso
      have z0_ := tz_lt_r c713_ (show (1 : Int32).toInt = 1 by decide)
      have z1_ := tz_nlt_r c721_ (show (1 : Int32).toInt = 1 by decide)
      omega
  · skip
    refine lv_aload_n hx hb dL_law_460 rfl (lv_at hl 1 rfl) ?_
    refine lv_aload_n hx hb dL_law_461 rfl (lv_at hl 3 rfl) ?_
    refine lv_iload_n hx hb dL_law_462 rfl (lv_at hl 0 rfl) ?_
    refine lv_iconst (v := 1) hx hb dL_law_463 (by decide) ?_
    refine lv_iadd hx hb dL_law_464 ?_
    refine tk_i 1 (by decide) ?_
    refine va_sld hx hb hX hbl hbA hS (show ¬ ((1 : Int32) < 0 ∨ 6 ≤ Int32.toNatClampNeg 1) by decide) dL_law_465 ?_
    refine tk_i x1 ex1 ?_
    have hPc : va_P (dC, dI) vwCl (mw b cy) _ := hP.sub [0, 1, 2, 3, 4, 5, 6, 7] rfl
    have hDc := hD.sub (ws' := mw b cy) [0, 1, 2, 3, 4, 5, 6, 7] (by decide) rfl
    have hFc := va_free (wc := mw b cy) hD hS hA [0, 1, 2, 3, 4, 5, 6, 7] rfl
    refine va_calli (va_runV (As := [.int x1]) (rest := [.int (-4)]) ⟨hx, hb, hml, hown, hts⟩ (c_X12_rest l dC dI cy b _ x1) (cwV 1 hts g_L_law_X12_rest_57 rfl rfl rfl (by decide +kernel) ⟨Nat.le_of_ble_eq_true rfl, Nat.le_of_ble_eq_true rfl⟩) (pv_ps hC hPc hDc (ci := 12) (q0 := 0) rfl rfl) rfl rfl hl.1 rfl (lv_room (Nat.le_of_ble_eq_true rfl)) dL_law_466 ⟨Nat.le_of_ble_eq_true rfl, Nat.le_of_ble_eq_true rfl⟩) hS (fun q _ h => hFc q h) hFc (fun r_ u t_ H1 locs ht hvm hw hB hz1 hk1 hS => ?_)
    obtain ⟨hP, hD⟩ := va_join (wr := []) (w1 := []) hP hD [0, 1, 2, 3, 4, 5, 6, 7] [] rfl rfl (by decide) (by decide) hk1 hFc va_P0 va_D0
    generalize H1 = H at hP hS ⊢
    have hP : va_P (dC, dI) vwCl ([]) H := hP
    have hD : va_D A ([]) := hD
    rcases hw with ⟨c723_, rfl⟩ | ⟨c724_, c725_, rfl⟩ | ⟨c726_, c727_, rfl⟩
    · skip
      exfalso
      have z0_ := tz_nlt_r c714_ (show (1 : Int32).toInt = 1 by decide)
      have z1_ := tz_le_r c715_ (show (4 : Int32).toInt = 4 by decide)
      have z2_ := tz_lt_r c723_ (show (1 : Int32).toInt = 1 by decide)
      omega
    · skip
      exfalso
      have z0_ := tz_nlt_r c714_ (show (1 : Int32).toInt = 1 by decide)
      have z1_ := tz_le_r c715_ (show (4 : Int32).toInt = 4 by decide)
      have z2_ := tz_lt_l c725_ (show (4 : Int32).toInt = 4 by decide)
      omega
    · skip
      refine lv_icmp_eq (tgt := 983) hx hb dL_law_469 (by decide) (fun _ => ?_) (fun c9_ => absurd (by decide) c9_)
      refine lv_iinc (v := 6) (lv' := [(3, .int 6), (2, .ref (b 0)), (1, .ref (a 0)), (0, .ref sc)]) hx hb dL_law_983 hl (k := 0) rfl (by decide) (by decide) rfl (fun ls hl => ?_)
      refine lv_goto (tgt := 18) hx hb dL_law_986 (by decide) ?_
      refine lv_iload_n hx hb dL_law_18 rfl (lv_at hl 0 rfl) ?_
      refine lv_aload_n hx hb dL_law_19 rfl (lv_at hl 3 rfl) ?_
      refine va_slen hx hb hX hbl hbA hS dL_law_20 ?_
      refine tk_i 6 (by decide) ?_
      refine lv_bipush (v := 6) hx hb dL_law_21 (by decide) ?_
      refine lv_isub hx hb dL_law_23 ?_
      refine tk_i 0 (by decide) ?_
      refine lv_icmp_gt (tgt := 989) hx hb dL_law_24 (by decide) (fun _ => ?_) (fun c9_ => absurd (by decide) c9_)
      refine lv_iconst (v := 1) hx hb dL_law_989 (by decide) ?_
      refine va_forget (fun q hq => by have h := hS.2.2 q hq; rw [hAe] at h; exact h) ?_
      refine W.widen (k := 600000) (n := 7302249) (Nat.le_of_ble_eq_true rfl) (Nat.le_of_ble_eq_true rfl) ?_
      exact lw_ret hx hb hr hlocks dL_law_990
  · skip
    refine lv_aload_n hx hb dL_law_460 rfl (lv_at hl 1 rfl) ?_
    refine lv_aload_n hx hb dL_law_461 rfl (lv_at hl 3 rfl) ?_
    refine lv_iload_n hx hb dL_law_462 rfl (lv_at hl 0 rfl) ?_
    refine lv_iconst (v := 1) hx hb dL_law_463 (by decide) ?_
    refine lv_iadd hx hb dL_law_464 ?_
    refine tk_i 1 (by decide) ?_
    refine va_sld hx hb hX hbl hbA hS (show ¬ ((1 : Int32) < 0 ∨ 6 ≤ Int32.toNatClampNeg 1) by decide) dL_law_465 ?_
    refine tk_i x1 ex1 ?_
    have hPc : va_P (dC, dI) vwCl (mw b cy) _ := hP.sub [0, 1, 2, 3, 4, 5, 6, 7] rfl
    have hDc := hD.sub (ws' := mw b cy) [0, 1, 2, 3, 4, 5, 6, 7] (by decide) rfl
    have hFc := va_free (wc := mw b cy) hD hS hA [0, 1, 2, 3, 4, 5, 6, 7] rfl
    refine va_calli (va_runV (As := [.int x1]) (rest := [.int (-1)]) ⟨hx, hb, hml, hown, hts⟩ (c_X12_rest l dC dI cy b _ x1) (cwV 1 hts g_L_law_X12_rest_57 rfl rfl rfl (by decide +kernel) ⟨Nat.le_of_ble_eq_true rfl, Nat.le_of_ble_eq_true rfl⟩) (pv_ps hC hPc hDc (ci := 12) (q0 := 0) rfl rfl) rfl rfl hl.1 rfl (lv_room (Nat.le_of_ble_eq_true rfl)) dL_law_466 ⟨Nat.le_of_ble_eq_true rfl, Nat.le_of_ble_eq_true rfl⟩) hS (fun q _ h => hFc q h) hFc (fun r_ u t_ H1 locs ht hvm hw hB hz1 hk1 hS => ?_)
    obtain ⟨hP, hD⟩ := va_join (wr := []) (w1 := []) hP hD [0, 1, 2, 3, 4, 5, 6, 7] [] rfl rfl (by decide) (by decide) hk1 hFc va_P0 va_D0
    generalize H1 = H at hP hS ⊢
    have hP : va_P (dC, dI) vwCl ([]) H := hP
    have hD : va_D A ([]) := hD
    rcases hw with ⟨c728_, rfl⟩ | ⟨c729_, c730_, rfl⟩ | ⟨c731_, c732_, rfl⟩
    · skip
      exfalso
      have z0_ := tz_nlt_r c716_ (show (1 : Int32).toInt = 1 by decide)
      have z1_ := tz_nle_r c717_ (show (4 : Int32).toInt = 4 by decide)
      have z2_ := tz_lt_r c728_ (show (1 : Int32).toInt = 1 by decide)
      omega
    · skip
      refine lv_icmp_eq (tgt := 983) hx hb dL_law_469 (by decide) (fun _ => ?_) (fun c9_ => absurd (by decide) c9_)
      refine lv_iinc (v := 6) (lv' := [(3, .int 6), (2, .ref (b 0)), (1, .ref (a 0)), (0, .ref sc)]) hx hb dL_law_983 hl (k := 0) rfl (by decide) (by decide) rfl (fun ls hl => ?_)
      refine lv_goto (tgt := 18) hx hb dL_law_986 (by decide) ?_
      refine lv_iload_n hx hb dL_law_18 rfl (lv_at hl 0 rfl) ?_
      refine lv_aload_n hx hb dL_law_19 rfl (lv_at hl 3 rfl) ?_
      refine va_slen hx hb hX hbl hbA hS dL_law_20 ?_
      refine tk_i 6 (by decide) ?_
      refine lv_bipush (v := 6) hx hb dL_law_21 (by decide) ?_
      refine lv_isub hx hb dL_law_23 ?_
      refine tk_i 0 (by decide) ?_
      refine lv_icmp_gt (tgt := 989) hx hb dL_law_24 (by decide) (fun _ => ?_) (fun c9_ => absurd (by decide) c9_)
      refine lv_iconst (v := 1) hx hb dL_law_989 (by decide) ?_
      refine va_forget (fun q hq => by have h := hS.2.2 q hq; rw [hAe] at h; exact h) ?_
      refine W.widen (k := 600000) (n := 7302249) (Nat.le_of_ble_eq_true rfl) (Nat.le_of_ble_eq_true rfl) ?_
      exact lw_ret hx hb hr hlocks dL_law_990
    · skip
      exfalso
      have z0_ := tz_nlt_r c716_ (show (1 : Int32).toInt = 1 by decide)
      have z1_ := tz_nle_r c717_ (show (4 : Int32).toInt = 4 by decide)
      have z2_ := tz_nlt_l c732_ (show (4 : Int32).toInt = 4 by decide)
      omega
set_option maxHeartbeats 40000000 in
set_option maxRecDepth 100000 in
theorem lawc_10 {p : Program} {e : Env} {s : State} {m : MethodId} {below : List Frame} {meth : Method} {c : Code} (l : Launch) {sc : Nat} {xs : Nat → Int32} {A : Nat → Prop} {dC : Nat → ClassId} {dI : Nat → Nat → Nat} {cy : Nat → ClassId} {a b : Nat → Nat} {g : Nat → Nat → Option Nat} (hAe : A = fun q => s.heap.size ≤ q) (C0 : lw_At p s m meth c sc 6 xs) (hC : cK dC dI cy s) {H : Heap} {locs : List Loc} {ls : Array Slot} (hP : va_P (dC, dI) vwCl (fw a cy g ++ mw b cy) H) (hD : va_D A (fw a cy g ++ mw b cy)) (hS : va_S A s.heap H locs) (hl : lv_has ls 4 [(3, .int 0), (2, .ref (b 0)), (1, .ref (a 0)), (0, .ref sc)]) : W p l e room_1 s m #[Value.ref sc] below meth c H locs 1000 100000 (lw_Z below #[Value.ref sc] s) (F0 m 474 ls []) := by
  obtain ⟨hx, hb, hr, hml, hown, hts0, hX, hbl, hlocks, -⟩ := C0
  have hown : s.vm.findClass RL = some m.cls := hown
  have hts : ∀ w ∈ v_L_law, w.before #[Value.ref sc] s = true := fun w h => hts0 w (v_L_in w h)
  have hK := hC.1
  have hA : ∀ q : Nat, s.heap.size ≤ q → A q := fun q h => by rw [hAe]; exact h
  have hbA : ¬ A sc := by
    rw [hAe]
    exact Nat.not_le.mpr hbl
  obtain ⟨x0, ex0⟩ : ∃ z : Int32, xs (Int32.toNatClampNeg 0) = z := ⟨_, rfl⟩
  obtain ⟨x1, ex1⟩ : ∃ z : Int32, xs (Int32.toNatClampNeg 1) = z := ⟨_, rfl⟩
  obtain ⟨x2, ex2⟩ : ∃ z : Int32, xs (Int32.toNatClampNeg 2) = z := ⟨_, rfl⟩
  obtain ⟨x3, ex3⟩ : ∃ z : Int32, xs (Int32.toNatClampNeg 3) = z := ⟨_, rfl⟩
  obtain ⟨x4, ex4⟩ : ∃ z : Int32, xs (Int32.toNatClampNeg 4) = z := ⟨_, rfl⟩
  obtain ⟨x5, ex5⟩ : ∃ z : Int32, xs (Int32.toNatClampNeg 5) = z := ⟨_, rfl⟩
  refine lv_aload_n hx hb dL_law_474 rfl (lv_at hl 2 rfl) ?_
  refine lv_aload_n hx hb dL_law_475 rfl (lv_at hl 3 rfl) ?_
  refine lv_iload_n hx hb dL_law_476 rfl (lv_at hl 0 rfl) ?_
  refine lv_iconst (v := 1) hx hb dL_law_477 (by decide) ?_
  refine lv_iadd hx hb dL_law_478 ?_
  refine tk_i 1 (by decide) ?_
  refine va_sld hx hb hX hbl hbA hS (show ¬ ((1 : Int32) < 0 ∨ 6 ≤ Int32.toNatClampNeg 1) by decide) dL_law_479 ?_
  refine tk_i x1 ex1 ?_
  have hPc : va_P (dC, dI) vwCl (fw a cy g) _ := hP.sub [0, 1, 2, 3, 4, 5, 6, 7, 8, 9, 10, 11, 12, 13, 14, 15, 16, 17, 18, 19, 20, 21, 22, 23, 24, 25, 26, 27, 28, 29, 30, 31, 32, 33, 34, 35, 36, 37, 38, 39, 40, 41, 42, 43, 44, 45, 46, 47, 48, 49, 50, 51, 52, 53, 54, 55] rfl
  have hDc := hD.sub (ws' := fw a cy g) [0, 1, 2, 3, 4, 5, 6, 7, 8, 9, 10, 11, 12, 13, 14, 15, 16, 17, 18, 19, 20, 21, 22, 23, 24, 25, 26, 27, 28, 29, 30, 31, 32, 33, 34, 35, 36, 37, 38, 39, 40, 41, 42, 43, 44, 45, 46, 47, 48, 49, 50, 51, 52, 53, 54, 55] (by decide) rfl
  have hFc := va_free (wc := fw a cy g) hD hS hA [0, 1, 2, 3, 4, 5, 6, 7, 8, 9, 10, 11, 12, 13, 14, 15, 16, 17, 18, 19, 20, 21, 22, 23, 24, 25, 26, 27, 28, 29, 30, 31, 32, 33, 34, 35, 36, 37, 38, 39, 40, 41, 42, 43, 44, 45, 46, 47, 48, 49, 50, 51, 52, 53, 54, 55] rfl
  refine va_calli (va_runV (As := [.int x1]) (rest := []) ⟨hx, hb, hml, hown, hts⟩ (c_X11_raise l dC dI cy a g _ x1) (cwV 1 hts g_L_law_X11_raise_58 rfl rfl rfl (by decide +kernel) ⟨Nat.le_of_ble_eq_true rfl, Nat.le_of_ble_eq_true rfl⟩) (pv_ps hC hPc hDc (ci := 11) (q0 := 0) rfl rfl) rfl rfl hl.1 rfl (lv_room (Nat.le_of_ble_eq_true rfl)) dL_law_480 ⟨Nat.le_of_ble_eq_true rfl, Nat.le_of_ble_eq_true rfl⟩) hS (fun q _ h => hFc q h) hFc (fun r_ u t_ H1 locs ht hvm hw hB hz1 hk1 hS => ?_)
  obtain ⟨hP, hD⟩ := va_join (wr := mw b cy) (w1 := []) hP hD [0, 1, 2, 3, 4, 5, 6, 7, 8, 9, 10, 11, 12, 13, 14, 15, 16, 17, 18, 19, 20, 21, 22, 23, 24, 25, 26, 27, 28, 29, 30, 31, 32, 33, 34, 35, 36, 37, 38, 39, 40, 41, 42, 43, 44, 45, 46, 47, 48, 49, 50, 51, 52, 53, 54, 55] [56, 57, 58, 59, 60, 61, 62, 63] rfl rfl (by decide) (by decide) hk1 hFc va_P0 va_D0
  generalize H1 = H at hP hS ⊢
  have hP : va_P (dC, dI) vwCl (mw b cy) H := hP
  have hD : va_D A (mw b cy) := hD
  rcases hw with ⟨c733_, rfl⟩ | ⟨c734_, c735_, rfl⟩ | ⟨c736_, c737_, c738_, rfl⟩
  · skip
    refine lv_aload_n hx hb dL_law_483 rfl (lv_at hl 1 rfl) ?_
    refine lv_aload_n hx hb dL_law_484 rfl (lv_at hl 3 rfl) ?_
    refine lv_iload_n hx hb dL_law_485 rfl (lv_at hl 0 rfl) ?_
    refine lv_iconst (v := 1) hx hb dL_law_486 (by decide) ?_
    refine lv_iadd hx hb dL_law_487 ?_
    refine tk_i 1 (by decide) ?_
    refine va_sld hx hb hX hbl hbA hS (show ¬ ((1 : Int32) < 0 ∨ 6 ≤ Int32.toNatClampNeg 1) by decide) dL_law_488 ?_
    refine tk_i x1 ex1 ?_
    have hPc : va_P (dC, dI) vwCl (mw b cy) _ := hP.sub [0, 1, 2, 3, 4, 5, 6, 7] rfl
    have hDc := hD.sub (ws' := mw b cy) [0, 1, 2, 3, 4, 5, 6, 7] (by decide) rfl
    have hFc := va_free (wc := mw b cy) hD hS hA [0, 1, 2, 3, 4, 5, 6, 7] rfl
    refine va_calli (va_runV (As := [.int x1]) (rest := [.int (-1)]) ⟨hx, hb, hml, hown, hts⟩ (c_X12_raise l dC dI cy b _ x1) (cwV 1 hts g_L_law_X12_raise_61 rfl rfl rfl (by decide +kernel) ⟨Nat.le_of_ble_eq_true rfl, Nat.le_of_ble_eq_true rfl⟩) (pv_ps hC hPc hDc (ci := 12) (q0 := 0) rfl rfl) rfl rfl hl.1 rfl (lv_room (Nat.le_of_ble_eq_true rfl)) dL_law_489 ⟨Nat.le_of_ble_eq_true rfl, Nat.le_of_ble_eq_true rfl⟩) hS (fun q _ h => hFc q h) hFc (fun r_ u t_ H1 locs ht hvm hw hB hz1 hk1 hS => ?_)
    obtain ⟨hP, hD⟩ := va_join (wr := []) (w1 := []) hP hD [0, 1, 2, 3, 4, 5, 6, 7] [] rfl rfl (by decide) (by decide) hk1 hFc va_P0 va_D0
    generalize H1 = H at hP hS ⊢
    have hP : va_P (dC, dI) vwCl ([]) H := hP
    have hD : va_D A ([]) := hD
    rcases hw with ⟨c739_, rfl⟩ | ⟨c740_, c741_, rfl⟩ | ⟨c742_, c743_, rfl⟩
    · skip
      refine lv_icmp_eq (tgt := 983) hx hb dL_law_492 (by decide) (fun _ => ?_) (fun c9_ => absurd (by decide) c9_)
      refine lv_iinc (v := 6) (lv' := [(3, .int 6), (2, .ref (b 0)), (1, .ref (a 0)), (0, .ref sc)]) hx hb dL_law_983 hl (k := 0) rfl (by decide) (by decide) rfl (fun ls hl => ?_)
      refine lv_goto (tgt := 18) hx hb dL_law_986 (by decide) ?_
      refine lv_iload_n hx hb dL_law_18 rfl (lv_at hl 0 rfl) ?_
      refine lv_aload_n hx hb dL_law_19 rfl (lv_at hl 3 rfl) ?_
      refine va_slen hx hb hX hbl hbA hS dL_law_20 ?_
      refine tk_i 6 (by decide) ?_
      refine lv_bipush (v := 6) hx hb dL_law_21 (by decide) ?_
      refine lv_isub hx hb dL_law_23 ?_
      refine tk_i 0 (by decide) ?_
      refine lv_icmp_gt (tgt := 989) hx hb dL_law_24 (by decide) (fun _ => ?_) (fun c9_ => absurd (by decide) c9_)
      refine lv_iconst (v := 1) hx hb dL_law_989 (by decide) ?_
      refine va_forget (fun q hq => by have h := hS.2.2 q hq; rw [hAe] at h; exact h) ?_
      refine W.widen (k := 600000) (n := 7302249) (Nat.le_of_ble_eq_true rfl) (Nat.le_of_ble_eq_true rfl) ?_
      exact lw_ret hx hb hr hlocks dL_law_990
    · skip
      exfalso
      have z0_ := tz_lt_r c733_ (show (0 : Int32).toInt = 0 by decide)
      have z1_ := tz_nlt_r c740_ (show (0 : Int32).toInt = 0 by decide)
      omega
    · skip
      exfalso
      have z0_ := tz_lt_r c733_ (show (0 : Int32).toInt = 0 by decide)
      have z1_ := tz_nlt_r c742_ (show (0 : Int32).toInt = 0 by decide)
      omega
  · skip
    refine lv_aload_n hx hb dL_law_483 rfl (lv_at hl 1 rfl) ?_
    refine lv_aload_n hx hb dL_law_484 rfl (lv_at hl 3 rfl) ?_
    refine lv_iload_n hx hb dL_law_485 rfl (lv_at hl 0 rfl) ?_
    refine lv_iconst (v := 1) hx hb dL_law_486 (by decide) ?_
    refine lv_iadd hx hb dL_law_487 ?_
    refine tk_i 1 (by decide) ?_
    refine va_sld hx hb hX hbl hbA hS (show ¬ ((1 : Int32) < 0 ∨ 6 ≤ Int32.toNatClampNeg 1) by decide) dL_law_488 ?_
    refine tk_i x1 ex1 ?_
    have hPc : va_P (dC, dI) vwCl (mw b cy) _ := hP.sub [0, 1, 2, 3, 4, 5, 6, 7] rfl
    have hDc := hD.sub (ws' := mw b cy) [0, 1, 2, 3, 4, 5, 6, 7] (by decide) rfl
    have hFc := va_free (wc := mw b cy) hD hS hA [0, 1, 2, 3, 4, 5, 6, 7] rfl
    refine va_calli (va_runV (As := [.int x1]) (rest := [.int (-1)]) ⟨hx, hb, hml, hown, hts⟩ (c_X12_raise l dC dI cy b _ x1) (cwV 1 hts g_L_law_X12_raise_61 rfl rfl rfl (by decide +kernel) ⟨Nat.le_of_ble_eq_true rfl, Nat.le_of_ble_eq_true rfl⟩) (pv_ps hC hPc hDc (ci := 12) (q0 := 0) rfl rfl) rfl rfl hl.1 rfl (lv_room (Nat.le_of_ble_eq_true rfl)) dL_law_489 ⟨Nat.le_of_ble_eq_true rfl, Nat.le_of_ble_eq_true rfl⟩) hS (fun q _ h => hFc q h) hFc (fun r_ u t_ H1 locs ht hvm hw hB hz1 hk1 hS => ?_)
    obtain ⟨hP, hD⟩ := va_join (wr := []) (w1 := []) hP hD [0, 1, 2, 3, 4, 5, 6, 7] [] rfl rfl (by decide) (by decide) hk1 hFc va_P0 va_D0
    generalize H1 = H at hP hS ⊢
    have hP : va_P (dC, dI) vwCl ([]) H := hP
    have hD : va_D A ([]) := hD
    rcases hw with ⟨c744_, rfl⟩ | ⟨c745_, c746_, rfl⟩ | ⟨c747_, c748_, rfl⟩
    · skip
      exfalso
      have z0_ := tz_nlt_r c734_ (show (0 : Int32).toInt = 0 by decide)
      have z1_ := tz_le_l c735_ (show (8 : Int32).toInt = 8 by decide)
      have z2_ := tz_lt_r c744_ (show (0 : Int32).toInt = 0 by decide)
      omega
    · skip
      refine lv_icmp_eq (tgt := 983) hx hb dL_law_492 (by decide) (fun _ => ?_) (fun c9_ => absurd (by decide) c9_)
      refine lv_iinc (v := 6) (lv' := [(3, .int 6), (2, .ref (b 0)), (1, .ref (a 0)), (0, .ref sc)]) hx hb dL_law_983 hl (k := 0) rfl (by decide) (by decide) rfl (fun ls hl => ?_)
      refine lv_goto (tgt := 18) hx hb dL_law_986 (by decide) ?_
      refine lv_iload_n hx hb dL_law_18 rfl (lv_at hl 0 rfl) ?_
      refine lv_aload_n hx hb dL_law_19 rfl (lv_at hl 3 rfl) ?_
      refine va_slen hx hb hX hbl hbA hS dL_law_20 ?_
      refine tk_i 6 (by decide) ?_
      refine lv_bipush (v := 6) hx hb dL_law_21 (by decide) ?_
      refine lv_isub hx hb dL_law_23 ?_
      refine tk_i 0 (by decide) ?_
      refine lv_icmp_gt (tgt := 989) hx hb dL_law_24 (by decide) (fun _ => ?_) (fun c9_ => absurd (by decide) c9_)
      refine lv_iconst (v := 1) hx hb dL_law_989 (by decide) ?_
      refine va_forget (fun q hq => by have h := hS.2.2 q hq; rw [hAe] at h; exact h) ?_
      refine W.widen (k := 600000) (n := 7302249) (Nat.le_of_ble_eq_true rfl) (Nat.le_of_ble_eq_true rfl) ?_
      exact lw_ret hx hb hr hlocks dL_law_990
    · skip
      exfalso
      have z0_ := tz_nlt_r c734_ (show (0 : Int32).toInt = 0 by decide)
      have z1_ := tz_le_l c735_ (show (8 : Int32).toInt = 8 by decide)
      have z2_ := tz_nlt_l c748_ (show (7 : Int32).toInt = 7 by decide)
      omega
  · skip
    refine lv_aload_n hx hb dL_law_483 rfl (lv_at hl 1 rfl) ?_
    refine lv_aload_n hx hb dL_law_484 rfl (lv_at hl 3 rfl) ?_
    refine lv_iload_n hx hb dL_law_485 rfl (lv_at hl 0 rfl) ?_
    refine lv_iconst (v := 1) hx hb dL_law_486 (by decide) ?_
    refine lv_iadd hx hb dL_law_487 ?_
    refine tk_i 1 (by decide) ?_
    refine va_sld hx hb hX hbl hbA hS (show ¬ ((1 : Int32) < 0 ∨ 6 ≤ Int32.toNatClampNeg 1) by decide) dL_law_488 ?_
    refine tk_i x1 ex1 ?_
    have hPc : va_P (dC, dI) vwCl (mw b cy) _ := hP.sub [0, 1, 2, 3, 4, 5, 6, 7] rfl
    have hDc := hD.sub (ws' := mw b cy) [0, 1, 2, 3, 4, 5, 6, 7] (by decide) rfl
    have hFc := va_free (wc := mw b cy) hD hS hA [0, 1, 2, 3, 4, 5, 6, 7] rfl
    refine va_calli (va_runV (As := [.int x1]) (rest := [.int 0]) ⟨hx, hb, hml, hown, hts⟩ (c_X12_raise l dC dI cy b _ x1) (cwV 1 hts g_L_law_X12_raise_61 rfl rfl rfl (by decide +kernel) ⟨Nat.le_of_ble_eq_true rfl, Nat.le_of_ble_eq_true rfl⟩) (pv_ps hC hPc hDc (ci := 12) (q0 := 0) rfl rfl) rfl rfl hl.1 rfl (lv_room (Nat.le_of_ble_eq_true rfl)) dL_law_489 ⟨Nat.le_of_ble_eq_true rfl, Nat.le_of_ble_eq_true rfl⟩) hS (fun q _ h => hFc q h) hFc (fun r_ u t_ H1 locs ht hvm hw hB hz1 hk1 hS => ?_)
    obtain ⟨hP, hD⟩ := va_join (wr := []) (w1 := []) hP hD [0, 1, 2, 3, 4, 5, 6, 7] [] rfl rfl (by decide) (by decide) hk1 hFc va_P0 va_D0
    generalize H1 = H at hP hS ⊢
    have hP : va_P (dC, dI) vwCl ([]) H := hP
    have hD : va_D A ([]) := hD
    rcases hw with ⟨c749_, rfl⟩ | ⟨c750_, c751_, rfl⟩ | ⟨c752_, c753_, rfl⟩
    · skip
      exfalso
      have z0_ := tz_nlt_r c736_ (show (0 : Int32).toInt = 0 by decide)
      have z1_ := tz_nle_l c737_ (show (8 : Int32).toInt = 8 by decide)
      have z2_ := tz_neq_l c738_ (show ((-1) : Int32).toInt = -1 by decide)
      have z3_ := tz_lt_r c749_ (show (0 : Int32).toInt = 0 by decide)
      omega
    · skip
      exfalso
      have z0_ := tz_nlt_r c736_ (show (0 : Int32).toInt = 0 by decide)
      have z1_ := tz_nle_l c737_ (show (8 : Int32).toInt = 8 by decide)
      have z2_ := tz_neq_l c738_ (show ((-1) : Int32).toInt = -1 by decide)
      have z3_ := tz_lt_l c751_ (show (7 : Int32).toInt = 7 by decide)
      omega
    · skip
      refine lv_icmp_eq (tgt := 983) hx hb dL_law_492 (by decide) (fun _ => ?_) (fun c9_ => absurd (by decide) c9_)
      refine lv_iinc (v := 6) (lv' := [(3, .int 6), (2, .ref (b 0)), (1, .ref (a 0)), (0, .ref sc)]) hx hb dL_law_983 hl (k := 0) rfl (by decide) (by decide) rfl (fun ls hl => ?_)
      refine lv_goto (tgt := 18) hx hb dL_law_986 (by decide) ?_
      refine lv_iload_n hx hb dL_law_18 rfl (lv_at hl 0 rfl) ?_
      refine lv_aload_n hx hb dL_law_19 rfl (lv_at hl 3 rfl) ?_
      refine va_slen hx hb hX hbl hbA hS dL_law_20 ?_
      refine tk_i 6 (by decide) ?_
      refine lv_bipush (v := 6) hx hb dL_law_21 (by decide) ?_
      refine lv_isub hx hb dL_law_23 ?_
      refine tk_i 0 (by decide) ?_
      refine lv_icmp_gt (tgt := 989) hx hb dL_law_24 (by decide) (fun _ => ?_) (fun c9_ => absurd (by decide) c9_)
      refine lv_iconst (v := 1) hx hb dL_law_989 (by decide) ?_
      refine va_forget (fun q hq => by have h := hS.2.2 q hq; rw [hAe] at h; exact h) ?_
      refine W.widen (k := 600000) (n := 7302249) (Nat.le_of_ble_eq_true rfl) (Nat.le_of_ble_eq_true rfl) ?_
      exact lw_ret hx hb hr hlocks dL_law_990
set_option maxHeartbeats 40000000 in
set_option maxRecDepth 100000 in
theorem lawc_11 {p : Program} {e : Env} {s : State} {m : MethodId} {below : List Frame} {meth : Method} {c : Code} (l : Launch) {sc : Nat} {xs : Nat → Int32} {A : Nat → Prop} {dC : Nat → ClassId} {dI : Nat → Nat → Nat} {cy : Nat → ClassId} {a b : Nat → Nat} {g : Nat → Nat → Option Nat} (hAe : A = fun q => s.heap.size ≤ q) (C0 : lw_At p s m meth c sc 6 xs) (hC : cK dC dI cy s) {H : Heap} {locs : List Loc} {ls : Array Slot} (hP : va_P (dC, dI) vwCl (fw a cy g ++ mw b cy) H) (hD : va_D A (fw a cy g ++ mw b cy)) (hS : va_S A s.heap H locs) (hl : lv_has ls 4 [(3, .int 0), (2, .ref (b 0)), (1, .ref (a 0)), (0, .ref sc)]) : W p l e room_1 s m #[Value.ref sc] below meth c H locs 1000 100000 (lw_Z below #[Value.ref sc] s) (F0 m 497 ls []) := by
  obtain ⟨hx, hb, hr, hml, hown, hts0, hX, hbl, hlocks, -⟩ := C0
  have hown : s.vm.findClass RL = some m.cls := hown
  have hts : ∀ w ∈ v_L_law, w.before #[Value.ref sc] s = true := fun w h => hts0 w (v_L_in w h)
  have hK := hC.1
  have hA : ∀ q : Nat, s.heap.size ≤ q → A q := fun q h => by rw [hAe]; exact h
  have hbA : ¬ A sc := by
    rw [hAe]
    exact Nat.not_le.mpr hbl
  obtain ⟨x0, ex0⟩ : ∃ z : Int32, xs (Int32.toNatClampNeg 0) = z := ⟨_, rfl⟩
  obtain ⟨x1, ex1⟩ : ∃ z : Int32, xs (Int32.toNatClampNeg 1) = z := ⟨_, rfl⟩
  obtain ⟨x2, ex2⟩ : ∃ z : Int32, xs (Int32.toNatClampNeg 2) = z := ⟨_, rfl⟩
  obtain ⟨x3, ex3⟩ : ∃ z : Int32, xs (Int32.toNatClampNeg 3) = z := ⟨_, rfl⟩
  obtain ⟨x4, ex4⟩ : ∃ z : Int32, xs (Int32.toNatClampNeg 4) = z := ⟨_, rfl⟩
  obtain ⟨x5, ex5⟩ : ∃ z : Int32, xs (Int32.toNatClampNeg 5) = z := ⟨_, rfl⟩
  refine lv_aload_n hx hb dL_law_497 rfl (lv_at hl 2 rfl) ?_
  refine lv_aload_n hx hb dL_law_498 rfl (lv_at hl 3 rfl) ?_
  refine lv_iload_n hx hb dL_law_499 rfl (lv_at hl 0 rfl) ?_
  refine lv_iconst (v := 1) hx hb dL_law_500 (by decide) ?_
  refine lv_iadd hx hb dL_law_501 ?_
  refine tk_i 1 (by decide) ?_
  refine va_sld hx hb hX hbl hbA hS (show ¬ ((1 : Int32) < 0 ∨ 6 ≤ Int32.toNatClampNeg 1) by decide) dL_law_502 ?_
  refine tk_i x1 ex1 ?_
  have hPc : va_P (dC, dI) vwCl (fw a cy g) _ := hP.sub [0, 1, 2, 3, 4, 5, 6, 7, 8, 9, 10, 11, 12, 13, 14, 15, 16, 17, 18, 19, 20, 21, 22, 23, 24, 25, 26, 27, 28, 29, 30, 31, 32, 33, 34, 35, 36, 37, 38, 39, 40, 41, 42, 43, 44, 45, 46, 47, 48, 49, 50, 51, 52, 53, 54, 55] rfl
  have hDc := hD.sub (ws' := fw a cy g) [0, 1, 2, 3, 4, 5, 6, 7, 8, 9, 10, 11, 12, 13, 14, 15, 16, 17, 18, 19, 20, 21, 22, 23, 24, 25, 26, 27, 28, 29, 30, 31, 32, 33, 34, 35, 36, 37, 38, 39, 40, 41, 42, 43, 44, 45, 46, 47, 48, 49, 50, 51, 52, 53, 54, 55] (by decide) rfl
  have hFc := va_free (wc := fw a cy g) hD hS hA [0, 1, 2, 3, 4, 5, 6, 7, 8, 9, 10, 11, 12, 13, 14, 15, 16, 17, 18, 19, 20, 21, 22, 23, 24, 25, 26, 27, 28, 29, 30, 31, 32, 33, 34, 35, 36, 37, 38, 39, 40, 41, 42, 43, 44, 45, 46, 47, 48, 49, 50, 51, 52, 53, 54, 55] rfl
  refine va_calli (va_runV (As := [.int x1]) (rest := []) ⟨hx, hb, hml, hown, hts⟩ (c_X11_clear l dC dI cy a g _ x1) (cwV 1 hts g_L_law_X11_clear_62 rfl rfl rfl (by decide +kernel) ⟨Nat.le_of_ble_eq_true rfl, Nat.le_of_ble_eq_true rfl⟩) (pv_ps hC hPc hDc (ci := 11) (q0 := 0) rfl rfl) rfl rfl hl.1 rfl (lv_room (Nat.le_of_ble_eq_true rfl)) dL_law_503 ⟨Nat.le_of_ble_eq_true rfl, Nat.le_of_ble_eq_true rfl⟩) hS (fun q _ h => hFc q h) hFc (fun r_ u t_ H1 locs ht hvm hw hB hz1 hk1 hS => ?_)
  obtain ⟨hP, hD⟩ := va_join (wr := mw b cy) (w1 := []) hP hD [0, 1, 2, 3, 4, 5, 6, 7, 8, 9, 10, 11, 12, 13, 14, 15, 16, 17, 18, 19, 20, 21, 22, 23, 24, 25, 26, 27, 28, 29, 30, 31, 32, 33, 34, 35, 36, 37, 38, 39, 40, 41, 42, 43, 44, 45, 46, 47, 48, 49, 50, 51, 52, 53, 54, 55] [56, 57, 58, 59, 60, 61, 62, 63] rfl rfl (by decide) (by decide) hk1 hFc va_P0 va_D0
  generalize H1 = H at hP hS ⊢
  have hP : va_P (dC, dI) vwCl (mw b cy) H := hP
  have hD : va_D A (mw b cy) := hD
  rcases hw with ⟨c754_, rfl⟩ | ⟨c755_, c756_, rfl⟩ | ⟨c757_, c758_, rfl⟩
  · skip
    refine lv_aload_n hx hb dL_law_506 rfl (lv_at hl 1 rfl) ?_
    refine lv_aload_n hx hb dL_law_507 rfl (lv_at hl 3 rfl) ?_
    refine lv_iload_n hx hb dL_law_508 rfl (lv_at hl 0 rfl) ?_
    refine lv_iconst (v := 1) hx hb dL_law_509 (by decide) ?_
    refine lv_iadd hx hb dL_law_510 ?_
    refine tk_i 1 (by decide) ?_
    refine va_sld hx hb hX hbl hbA hS (show ¬ ((1 : Int32) < 0 ∨ 6 ≤ Int32.toNatClampNeg 1) by decide) dL_law_511 ?_
    refine tk_i x1 ex1 ?_
    have hPc : va_P (dC, dI) vwCl (mw b cy) _ := hP.sub [0, 1, 2, 3, 4, 5, 6, 7] rfl
    have hDc := hD.sub (ws' := mw b cy) [0, 1, 2, 3, 4, 5, 6, 7] (by decide) rfl
    have hFc := va_free (wc := mw b cy) hD hS hA [0, 1, 2, 3, 4, 5, 6, 7] rfl
    refine va_calli (va_runV (As := [.int x1]) (rest := [.int (-1)]) ⟨hx, hb, hml, hown, hts⟩ (c_X12_clear l dC dI cy b _ x1) (cwV 1 hts g_L_law_X12_clear_65 rfl rfl rfl (by decide +kernel) ⟨Nat.le_of_ble_eq_true rfl, Nat.le_of_ble_eq_true rfl⟩) (pv_ps hC hPc hDc (ci := 12) (q0 := 0) rfl rfl) rfl rfl hl.1 rfl (lv_room (Nat.le_of_ble_eq_true rfl)) dL_law_512 ⟨Nat.le_of_ble_eq_true rfl, Nat.le_of_ble_eq_true rfl⟩) hS (fun q _ h => hFc q h) hFc (fun r_ u t_ H1 locs ht hvm hw hB hz1 hk1 hS => ?_)
    obtain ⟨hP, hD⟩ := va_join (wr := []) (w1 := []) hP hD [0, 1, 2, 3, 4, 5, 6, 7] [] rfl rfl (by decide) (by decide) hk1 hFc va_P0 va_D0
    generalize H1 = H at hP hS ⊢
    have hP : va_P (dC, dI) vwCl ([]) H := hP
    have hD : va_D A ([]) := hD
    rcases hw with ⟨c759_, rfl⟩ | ⟨c760_, c761_, rfl⟩ | ⟨c762_, c763_, rfl⟩
    · skip
      refine lv_icmp_eq (tgt := 983) hx hb dL_law_515 (by decide) (fun _ => ?_) (fun c9_ => absurd (by decide) c9_)
      refine lv_iinc (v := 6) (lv' := [(3, .int 6), (2, .ref (b 0)), (1, .ref (a 0)), (0, .ref sc)]) hx hb dL_law_983 hl (k := 0) rfl (by decide) (by decide) rfl (fun ls hl => ?_)
      refine lv_goto (tgt := 18) hx hb dL_law_986 (by decide) ?_
      refine lv_iload_n hx hb dL_law_18 rfl (lv_at hl 0 rfl) ?_
      refine lv_aload_n hx hb dL_law_19 rfl (lv_at hl 3 rfl) ?_
      refine va_slen hx hb hX hbl hbA hS dL_law_20 ?_
      refine tk_i 6 (by decide) ?_
      refine lv_bipush (v := 6) hx hb dL_law_21 (by decide) ?_
      refine lv_isub hx hb dL_law_23 ?_
      refine tk_i 0 (by decide) ?_
      refine lv_icmp_gt (tgt := 989) hx hb dL_law_24 (by decide) (fun _ => ?_) (fun c9_ => absurd (by decide) c9_)
      refine lv_iconst (v := 1) hx hb dL_law_989 (by decide) ?_
      refine va_forget (fun q hq => by have h := hS.2.2 q hq; rw [hAe] at h; exact h) ?_
      refine W.widen (k := 600000) (n := 7302249) (Nat.le_of_ble_eq_true rfl) (Nat.le_of_ble_eq_true rfl) ?_
      exact lw_ret hx hb hr hlocks dL_law_990
    · skip
      exfalso
      have z0_ := tz_lt_r c754_ (show (0 : Int32).toInt = 0 by decide)
      have z1_ := tz_nlt_r c760_ (show (0 : Int32).toInt = 0 by decide)
      omega
    · skip
      exfalso
      have z0_ := tz_lt_r c754_ (show (0 : Int32).toInt = 0 by decide)
      have z1_ := tz_nlt_r c762_ (show (0 : Int32).toInt = 0 by decide)
      omega
  · skip
    refine lv_aload_n hx hb dL_law_506 rfl (lv_at hl 1 rfl) ?_
    refine lv_aload_n hx hb dL_law_507 rfl (lv_at hl 3 rfl) ?_
    refine lv_iload_n hx hb dL_law_508 rfl (lv_at hl 0 rfl) ?_
    refine lv_iconst (v := 1) hx hb dL_law_509 (by decide) ?_
    refine lv_iadd hx hb dL_law_510 ?_
    refine tk_i 1 (by decide) ?_
    refine va_sld hx hb hX hbl hbA hS (show ¬ ((1 : Int32) < 0 ∨ 6 ≤ Int32.toNatClampNeg 1) by decide) dL_law_511 ?_
    refine tk_i x1 ex1 ?_
    have hPc : va_P (dC, dI) vwCl (mw b cy) _ := hP.sub [0, 1, 2, 3, 4, 5, 6, 7] rfl
    have hDc := hD.sub (ws' := mw b cy) [0, 1, 2, 3, 4, 5, 6, 7] (by decide) rfl
    have hFc := va_free (wc := mw b cy) hD hS hA [0, 1, 2, 3, 4, 5, 6, 7] rfl
    refine va_calli (va_runV (As := [.int x1]) (rest := [.int (-1)]) ⟨hx, hb, hml, hown, hts⟩ (c_X12_clear l dC dI cy b _ x1) (cwV 1 hts g_L_law_X12_clear_65 rfl rfl rfl (by decide +kernel) ⟨Nat.le_of_ble_eq_true rfl, Nat.le_of_ble_eq_true rfl⟩) (pv_ps hC hPc hDc (ci := 12) (q0 := 0) rfl rfl) rfl rfl hl.1 rfl (lv_room (Nat.le_of_ble_eq_true rfl)) dL_law_512 ⟨Nat.le_of_ble_eq_true rfl, Nat.le_of_ble_eq_true rfl⟩) hS (fun q _ h => hFc q h) hFc (fun r_ u t_ H1 locs ht hvm hw hB hz1 hk1 hS => ?_)
    obtain ⟨hP, hD⟩ := va_join (wr := []) (w1 := []) hP hD [0, 1, 2, 3, 4, 5, 6, 7] [] rfl rfl (by decide) (by decide) hk1 hFc va_P0 va_D0
    generalize H1 = H at hP hS ⊢
    have hP : va_P (dC, dI) vwCl ([]) H := hP
    have hD : va_D A ([]) := hD
    rcases hw with ⟨c764_, rfl⟩ | ⟨c765_, c766_, rfl⟩ | ⟨c767_, c768_, rfl⟩
    · skip
      exfalso
      have z0_ := tz_nlt_r c755_ (show (0 : Int32).toInt = 0 by decide)
      have z1_ := tz_le_l c756_ (show (8 : Int32).toInt = 8 by decide)
      have z2_ := tz_lt_r c764_ (show (0 : Int32).toInt = 0 by decide)
      omega
    · skip
      refine lv_icmp_eq (tgt := 983) hx hb dL_law_515 (by decide) (fun _ => ?_) (fun c9_ => absurd (by decide) c9_)
      refine lv_iinc (v := 6) (lv' := [(3, .int 6), (2, .ref (b 0)), (1, .ref (a 0)), (0, .ref sc)]) hx hb dL_law_983 hl (k := 0) rfl (by decide) (by decide) rfl (fun ls hl => ?_)
      refine lv_goto (tgt := 18) hx hb dL_law_986 (by decide) ?_
      refine lv_iload_n hx hb dL_law_18 rfl (lv_at hl 0 rfl) ?_
      refine lv_aload_n hx hb dL_law_19 rfl (lv_at hl 3 rfl) ?_
      refine va_slen hx hb hX hbl hbA hS dL_law_20 ?_
      refine tk_i 6 (by decide) ?_
      refine lv_bipush (v := 6) hx hb dL_law_21 (by decide) ?_
      refine lv_isub hx hb dL_law_23 ?_
      refine tk_i 0 (by decide) ?_
      refine lv_icmp_gt (tgt := 989) hx hb dL_law_24 (by decide) (fun _ => ?_) (fun c9_ => absurd (by decide) c9_)
      refine lv_iconst (v := 1) hx hb dL_law_989 (by decide) ?_
      refine va_forget (fun q hq => by have h := hS.2.2 q hq; rw [hAe] at h; exact h) ?_
      refine W.widen (k := 600000) (n := 7302249) (Nat.le_of_ble_eq_true rfl) (Nat.le_of_ble_eq_true rfl) ?_
      exact lw_ret hx hb hr hlocks dL_law_990
    · skip
      exfalso
      have z0_ := tz_nlt_r c755_ (show (0 : Int32).toInt = 0 by decide)
      have z1_ := tz_le_l c756_ (show (8 : Int32).toInt = 8 by decide)
      have z2_ := tz_nlt_l c768_ (show (7 : Int32).toInt = 7 by decide)
      omega
  · skip
    refine lv_aload_n hx hb dL_law_506 rfl (lv_at hl 1 rfl) ?_
    refine lv_aload_n hx hb dL_law_507 rfl (lv_at hl 3 rfl) ?_
    refine lv_iload_n hx hb dL_law_508 rfl (lv_at hl 0 rfl) ?_
    refine lv_iconst (v := 1) hx hb dL_law_509 (by decide) ?_
    refine lv_iadd hx hb dL_law_510 ?_
    refine tk_i 1 (by decide) ?_
    refine va_sld hx hb hX hbl hbA hS (show ¬ ((1 : Int32) < 0 ∨ 6 ≤ Int32.toNatClampNeg 1) by decide) dL_law_511 ?_
    refine tk_i x1 ex1 ?_
    have hPc : va_P (dC, dI) vwCl (mw b cy) _ := hP.sub [0, 1, 2, 3, 4, 5, 6, 7] rfl
    have hDc := hD.sub (ws' := mw b cy) [0, 1, 2, 3, 4, 5, 6, 7] (by decide) rfl
    have hFc := va_free (wc := mw b cy) hD hS hA [0, 1, 2, 3, 4, 5, 6, 7] rfl
    refine va_calli (va_runV (As := [.int x1]) (rest := [.int (-4)]) ⟨hx, hb, hml, hown, hts⟩ (c_X12_clear l dC dI cy b _ x1) (cwV 1 hts g_L_law_X12_clear_65 rfl rfl rfl (by decide +kernel) ⟨Nat.le_of_ble_eq_true rfl, Nat.le_of_ble_eq_true rfl⟩) (pv_ps hC hPc hDc (ci := 12) (q0 := 0) rfl rfl) rfl rfl hl.1 rfl (lv_room (Nat.le_of_ble_eq_true rfl)) dL_law_512 ⟨Nat.le_of_ble_eq_true rfl, Nat.le_of_ble_eq_true rfl⟩) hS (fun q _ h => hFc q h) hFc (fun r_ u t_ H1 locs ht hvm hw hB hz1 hk1 hS => ?_)
    obtain ⟨hP, hD⟩ := va_join (wr := []) (w1 := []) hP hD [0, 1, 2, 3, 4, 5, 6, 7] [] rfl rfl (by decide) (by decide) hk1 hFc va_P0 va_D0
    generalize H1 = H at hP hS ⊢
    have hP : va_P (dC, dI) vwCl ([]) H := hP
    have hD : va_D A ([]) := hD
    rcases hw with ⟨c769_, rfl⟩ | ⟨c770_, c771_, rfl⟩ | ⟨c772_, c773_, rfl⟩
    · skip
      exfalso
      have z0_ := tz_nlt_r c757_ (show (0 : Int32).toInt = 0 by decide)
      have z1_ := tz_nle_l c758_ (show (8 : Int32).toInt = 8 by decide)
      have z2_ := tz_lt_r c769_ (show (0 : Int32).toInt = 0 by decide)
      omega
    · skip
      exfalso
      have z0_ := tz_nlt_r c757_ (show (0 : Int32).toInt = 0 by decide)
      have z1_ := tz_nle_l c758_ (show (8 : Int32).toInt = 8 by decide)
      have z2_ := tz_lt_l c771_ (show (7 : Int32).toInt = 7 by decide)
      omega
    · skip
      refine lv_icmp_eq (tgt := 983) hx hb dL_law_515 (by decide) (fun _ => ?_) (fun c9_ => absurd (by decide) c9_)
      refine lv_iinc (v := 6) (lv' := [(3, .int 6), (2, .ref (b 0)), (1, .ref (a 0)), (0, .ref sc)]) hx hb dL_law_983 hl (k := 0) rfl (by decide) (by decide) rfl (fun ls hl => ?_)
      refine lv_goto (tgt := 18) hx hb dL_law_986 (by decide) ?_
      refine lv_iload_n hx hb dL_law_18 rfl (lv_at hl 0 rfl) ?_
      refine lv_aload_n hx hb dL_law_19 rfl (lv_at hl 3 rfl) ?_
      refine va_slen hx hb hX hbl hbA hS dL_law_20 ?_
      refine tk_i 6 (by decide) ?_
      refine lv_bipush (v := 6) hx hb dL_law_21 (by decide) ?_
      refine lv_isub hx hb dL_law_23 ?_
      refine tk_i 0 (by decide) ?_
      refine lv_icmp_gt (tgt := 989) hx hb dL_law_24 (by decide) (fun _ => ?_) (fun c9_ => absurd (by decide) c9_)
      refine lv_iconst (v := 1) hx hb dL_law_989 (by decide) ?_
      refine va_forget (fun q hq => by have h := hS.2.2 q hq; rw [hAe] at h; exact h) ?_
      refine W.widen (k := 600000) (n := 7302249) (Nat.le_of_ble_eq_true rfl) (Nat.le_of_ble_eq_true rfl) ?_
      exact lw_ret hx hb hr hlocks dL_law_990
set_option maxHeartbeats 40000000 in
set_option maxRecDepth 100000 in
theorem lawc_12 {p : Program} {e : Env} {s : State} {m : MethodId} {below : List Frame} {meth : Method} {c : Code} (l : Launch) {sc : Nat} {xs : Nat → Int32} {A : Nat → Prop} {dC : Nat → ClassId} {dI : Nat → Nat → Nat} {cy : Nat → ClassId} {a b : Nat → Nat} {g : Nat → Nat → Option Nat} (hAe : A = fun q => s.heap.size ≤ q) (C0 : lw_At p s m meth c sc 6 xs) (hC : cK dC dI cy s) {H : Heap} {locs : List Loc} {ls : Array Slot} (hP : va_P (dC, dI) vwCl (fw a cy g ++ mw b cy) H) (hD : va_D A (fw a cy g ++ mw b cy)) (hS : va_S A s.heap H locs) (hl : lv_has ls 4 [(3, .int 0), (2, .ref (b 0)), (1, .ref (a 0)), (0, .ref sc)]) : W p l e room_1 s m #[Value.ref sc] below meth c H locs 1000 100000 (lw_Z below #[Value.ref sc] s) (F0 m 520 ls []) := by
  obtain ⟨hx, hb, hr, hml, hown, hts0, hX, hbl, hlocks, -⟩ := C0
  have hown : s.vm.findClass RL = some m.cls := hown
  have hts : ∀ w ∈ v_L_law, w.before #[Value.ref sc] s = true := fun w h => hts0 w (v_L_in w h)
  have hK := hC.1
  have hA : ∀ q : Nat, s.heap.size ≤ q → A q := fun q h => by rw [hAe]; exact h
  have hbA : ¬ A sc := by
    rw [hAe]
    exact Nat.not_le.mpr hbl
  obtain ⟨x0, ex0⟩ : ∃ z : Int32, xs (Int32.toNatClampNeg 0) = z := ⟨_, rfl⟩
  obtain ⟨x1, ex1⟩ : ∃ z : Int32, xs (Int32.toNatClampNeg 1) = z := ⟨_, rfl⟩
  obtain ⟨x2, ex2⟩ : ∃ z : Int32, xs (Int32.toNatClampNeg 2) = z := ⟨_, rfl⟩
  obtain ⟨x3, ex3⟩ : ∃ z : Int32, xs (Int32.toNatClampNeg 3) = z := ⟨_, rfl⟩
  obtain ⟨x4, ex4⟩ : ∃ z : Int32, xs (Int32.toNatClampNeg 4) = z := ⟨_, rfl⟩
  obtain ⟨x5, ex5⟩ : ∃ z : Int32, xs (Int32.toNatClampNeg 5) = z := ⟨_, rfl⟩
  refine lv_aload_n hx hb dL_law_520 rfl (lv_at hl 2 rfl) ?_
  have hPc : va_P (dC, dI) vwCl (fw a cy g) _ := hP.sub [0, 1, 2, 3, 4, 5, 6, 7, 8, 9, 10, 11, 12, 13, 14, 15, 16, 17, 18, 19, 20, 21, 22, 23, 24, 25, 26, 27, 28, 29, 30, 31, 32, 33, 34, 35, 36, 37, 38, 39, 40, 41, 42, 43, 44, 45, 46, 47, 48, 49, 50, 51, 52, 53, 54, 55] rfl
  have hDc := hD.sub (ws' := fw a cy g) [0, 1, 2, 3, 4, 5, 6, 7, 8, 9, 10, 11, 12, 13, 14, 15, 16, 17, 18, 19, 20, 21, 22, 23, 24, 25, 26, 27, 28, 29, 30, 31, 32, 33, 34, 35, 36, 37, 38, 39, 40, 41, 42, 43, 44, 45, 46, 47, 48, 49, 50, 51, 52, 53, 54, 55] (by decide) rfl
  have hFc := va_free (wc := fw a cy g) hD hS hA [0, 1, 2, 3, 4, 5, 6, 7, 8, 9, 10, 11, 12, 13, 14, 15, 16, 17, 18, 19, 20, 21, 22, 23, 24, 25, 26, 27, 28, 29, 30, 31, 32, 33, 34, 35, 36, 37, 38, 39, 40, 41, 42, 43, 44, 45, 46, 47, 48, 49, 50, 51, 52, 53, 54, 55] rfl
  refine va_calli (va_runV (As := []) (rest := []) ⟨hx, hb, hml, hown, hts⟩ (c_X11_undo l dC dI cy a g _) (cwV 0 hts g_L_law_X11_undo_66 rfl rfl rfl (by decide +kernel) ⟨Nat.le_of_ble_eq_true rfl, Nat.le_of_ble_eq_true rfl⟩) (pv_ps hC hPc hDc (ci := 11) (q0 := 0) rfl rfl) rfl rfl hl.1 rfl (lv_room (Nat.le_of_ble_eq_true rfl)) dL_law_521 ⟨Nat.le_of_ble_eq_true rfl, Nat.le_of_ble_eq_true rfl⟩) hS (fun q _ h => hFc q h) hFc (fun r_ u t_ H1 locs ht hvm hw hB hz1 hk1 hS => ?_)
  obtain ⟨hP, hD⟩ := va_join (wr := mw b cy) (w1 := []) hP hD [0, 1, 2, 3, 4, 5, 6, 7, 8, 9, 10, 11, 12, 13, 14, 15, 16, 17, 18, 19, 20, 21, 22, 23, 24, 25, 26, 27, 28, 29, 30, 31, 32, 33, 34, 35, 36, 37, 38, 39, 40, 41, 42, 43, 44, 45, 46, 47, 48, 49, 50, 51, 52, 53, 54, 55] [56, 57, 58, 59, 60, 61, 62, 63] rfl rfl (by decide) (by decide) hk1 hFc va_P0 va_D0
  generalize H1 = H at hP hS ⊢
  have hP : va_P (dC, dI) vwCl (mw b cy) H := hP
  have hD : va_D A (mw b cy) := hD
  subst hw
  refine lv_aload_n hx hb dL_law_524 rfl (lv_at hl 1 rfl) ?_
  have hPc : va_P (dC, dI) vwCl (mw b cy) _ := hP.sub [0, 1, 2, 3, 4, 5, 6, 7] rfl
  have hDc := hD.sub (ws' := mw b cy) [0, 1, 2, 3, 4, 5, 6, 7] (by decide) rfl
  have hFc := va_free (wc := mw b cy) hD hS hA [0, 1, 2, 3, 4, 5, 6, 7] rfl
  refine va_calli (va_runV (As := []) (rest := [.int (-4)]) ⟨hx, hb, hml, hown, hts⟩ (c_X12_undo l dC dI cy b _) (cwV 0 hts g_L_law_X12_undo_69 rfl rfl rfl (by decide +kernel) ⟨Nat.le_of_ble_eq_true rfl, Nat.le_of_ble_eq_true rfl⟩) (pv_ps hC hPc hDc (ci := 12) (q0 := 0) rfl rfl) rfl rfl hl.1 rfl (lv_room (Nat.le_of_ble_eq_true rfl)) dL_law_525 ⟨Nat.le_of_ble_eq_true rfl, Nat.le_of_ble_eq_true rfl⟩) hS (fun q _ h => hFc q h) hFc (fun r_ u t_ H1 locs ht hvm hw hB hz1 hk1 hS => ?_)
  obtain ⟨hP, hD⟩ := va_join (wr := []) (w1 := []) hP hD [0, 1, 2, 3, 4, 5, 6, 7] [] rfl rfl (by decide) (by decide) hk1 hFc va_P0 va_D0
  generalize H1 = H at hP hS ⊢
  have hP : va_P (dC, dI) vwCl ([]) H := hP
  have hD : va_D A ([]) := hD
  subst hw
  refine lv_icmp_eq (tgt := 983) hx hb dL_law_528 (by decide) (fun _ => ?_) (fun c9_ => absurd (by decide) c9_)
  refine lv_iinc (v := 6) (lv' := [(3, .int 6), (2, .ref (b 0)), (1, .ref (a 0)), (0, .ref sc)]) hx hb dL_law_983 hl (k := 0) rfl (by decide) (by decide) rfl (fun ls hl => ?_)
  refine lv_goto (tgt := 18) hx hb dL_law_986 (by decide) ?_
  refine lv_iload_n hx hb dL_law_18 rfl (lv_at hl 0 rfl) ?_
  refine lv_aload_n hx hb dL_law_19 rfl (lv_at hl 3 rfl) ?_
  refine va_slen hx hb hX hbl hbA hS dL_law_20 ?_
  refine tk_i 6 (by decide) ?_
  refine lv_bipush (v := 6) hx hb dL_law_21 (by decide) ?_
  refine lv_isub hx hb dL_law_23 ?_
  refine tk_i 0 (by decide) ?_
  refine lv_icmp_gt (tgt := 989) hx hb dL_law_24 (by decide) (fun _ => ?_) (fun c9_ => absurd (by decide) c9_)
  refine lv_iconst (v := 1) hx hb dL_law_989 (by decide) ?_
  refine va_forget (fun q hq => by have h := hS.2.2 q hq; rw [hAe] at h; exact h) ?_
  refine W.widen (k := 600000) (n := 7302249) (Nat.le_of_ble_eq_true rfl) (Nat.le_of_ble_eq_true rfl) ?_
  exact lw_ret hx hb hr hlocks dL_law_990
