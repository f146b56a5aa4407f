set_option maxHeartbeats 40000000 in
set_option maxRecDepth 100000 in
theorem lawc_13 {p : Program} {e : Env} {s : State} {m : MethodId} {below : List Frame} {meth : Method} {c : Code} (l : Launch) {sc : Nat} {xs : Nat → Int32} {A : Nat → Prop} {dC : Nat → ClassId} {dI : Nat → Nat → Nat} {cy : Nat → ClassId} {a b : Nat → Nat} {g : Nat → Nat → Option Nat} (hAe : A = fun q => s.heap.size ≤ q) (C0 : lw_At p s m meth c sc 6 xs) (hC : cK dC dI cy s) {H : Heap} {locs : List Loc} {ls : Array Slot} (hP : va_P (dC, dI) vwCl (fw a cy g ++ mw b cy) H) (hD : va_D A (fw a cy g ++ mw b cy)) (hS : va_S A s.heap H locs) (hl : lv_has ls 4 [(3, .int 0), (2, .ref (b 0)), (1, .ref (a 0)), (0, .ref sc)]) : W p l e room_1 s m #[Value.ref sc] below meth c H locs 1000 100000 (lw_Z below #[Value.ref sc] s) (F0 m 533 ls []) := by
  obtain ⟨hx, hb, hr, hml, hown, hts0, hX, hbl, hlocks, -⟩ := C0
  have hown : s.vm.findClass RL = some m.cls := hown
  have hts : ∀ w ∈ v_L_law, w.before #[Value.ref sc] s = true := fun w h => hts0 w (v_L_in w h)
  have hK := hC.1
  have hA : ∀ q : Nat, s.heap.size ≤ q → A q := fun q h => by rw [hAe]; exact h
  have hbA : ¬ A sc := by
    rw [hAe]
    exact Nat.not_le.mpr hbl
  obtain ⟨x0, ex0⟩ : ∃ z : Int32, xs (Int32.toNatClampNeg 0) = z := ⟨_, rfl⟩
  obtain ⟨x1, ex1⟩ : ∃ z : Int32, xs (Int32.toNatClampNeg 1) = z := ⟨_, rfl⟩
  obtain ⟨x2, ex2⟩ : ∃ z : Int32, xs (Int32.toNatClampNeg 2) = z := ⟨_, rfl⟩
  obtain ⟨x3, ex3⟩ : ∃ z : Int32, xs (Int32.toNatClampNeg 3) = z := ⟨_, rfl⟩
  obtain ⟨x4, ex4⟩ : ∃ z : Int32, xs (Int32.toNatClampNeg 4) = z := ⟨_, rfl⟩
  obtain ⟨x5, ex5⟩ : ∃ z : Int32, xs (Int32.toNatClampNeg 5) = z := ⟨_, rfl⟩
  refine lv_aload_n hx hb dL_law_533 rfl (lv_at hl 2 rfl) ?_
  refine lv_aload_n hx hb dL_law_534 rfl (lv_at hl 3 rfl) ?_
  refine lv_iload_n hx hb dL_law_535 rfl (lv_at hl 0 rfl) ?_
  refine lv_iconst (v := 1) hx hb dL_law_536 (by decide) ?_
  refine lv_iadd hx hb dL_law_537 ?_
  refine tk_i 1 (by decide) ?_
  refine va_sld hx hb hX hbl hbA hS (show ¬ ((1 : Int32) < 0 ∨ 6 ≤ Int32.toNatClampNeg 1) by decide) dL_law_538 ?_
  refine tk_i x1 ex1 ?_
  refine lv_aload_n hx hb dL_law_539 rfl (lv_at hl 3 rfl) ?_
  refine lv_iload_n hx hb dL_law_540 rfl (lv_at hl 0 rfl) ?_
  refine lv_iconst (v := 2) hx hb dL_law_541 (by decide) ?_
  refine lv_iadd hx hb dL_law_542 ?_
  refine tk_i 2 (by decide) ?_
  refine va_sld hx hb hX hbl hbA hS (show ¬ ((2 : Int32) < 0 ∨ 6 ≤ Int32.toNatClampNeg 2) by decide) dL_law_543 ?_
  refine tk_i x2 ex2 ?_
  have hPc : va_P (dC, dI) vwCl (fw a cy g) _ := hP.sub [0, 1, 2, 3, 4, 5, 6, 7, 8, 9, 10, 11, 12, 13, 14, 15, 16, 17, 18, 19, 20, 21, 22, 23, 24, 25, 26, 27, 28, 29, 30, 31, 32, 33, 34, 35, 36, 37, 38, 39, 40, 41, 42, 43, 44, 45, 46, 47, 48, 49, 50, 51, 52, 53, 54, 55] rfl
  refine tk_pi (va_runV (As := [.int x1, .int x2]) (rest := []) ⟨hx, hb, hml, hown, hts⟩ (c_X11_node l dC dI cy a g x1 x2) (cwV 2 hts g_L_law_X11_node_70 rfl rfl rfl (by decide +kernel) ⟨Nat.le_of_ble_eq_true rfl, Nat.le_of_ble_eq_true rfl⟩) (pv_pp hC hPc (ci := 11) (q0 := 0) rfl rfl) rfl rfl hl.1 rfl (lv_room (Nat.le_of_ble_eq_true rfl)) dL_law_544 ⟨Nat.le_of_ble_eq_true rfl, Nat.le_of_ble_eq_true rfl⟩) hP hS (fun r_ H locs hw hP hS => ?_)
  rcases hw with ⟨c774_, rfl⟩ | ⟨c775_, c776_, rfl⟩ | ⟨c777_, c778_, rfl⟩ | ⟨c779_, c780_, rfl⟩ | ⟨c781_, c782_, rfl⟩ | ⟨c783_, c784_, rfl⟩ | ⟨c785_, c786_, rfl⟩ | ⟨c787_, c788_, rfl⟩ | ⟨c789_, c790_, rfl⟩ | ⟨c791_, c792_, c793_, c794_, c795_, c796_, c797_, c798_, rfl⟩
  · skip
    refine lv_aload_n hx hb dL_law_547 rfl (lv_at hl 1 rfl) ?_
    refine lv_aload_n hx hb dL_law_548 rfl (lv_at hl 3 rfl) ?_
    refine lv_iload_n hx hb dL_law_549 rfl (lv_at hl 0 rfl) ?_
    refine lv_iconst (v := 1) hx hb dL_law_550 (by decide) ?_
    refine lv_iadd hx hb dL_law_551 ?_
    refine tk_i 1 (by decide) ?_
    refine va_sld hx hb hX hbl hbA hS (show ¬ ((1 : Int32) < 0 ∨ 6 ≤ Int32.toNatClampNeg 1) by decide) dL_law_552 ?_
    refine tk_i x1 ex1 ?_
    refine lv_aload_n hx hb dL_law_553 rfl (lv_at hl 3 rfl) ?_
    refine lv_iload_n hx hb dL_law_554 rfl (lv_at hl 0 rfl) ?_
    refine lv_iconst (v := 2) hx hb dL_law_555 (by decide) ?_
    refine lv_iadd hx hb dL_law_556 ?_
    refine tk_i 2 (by decide) ?_
    refine va_sld hx hb hX hbl hbA hS (show ¬ ((2 : Int32) < 0 ∨ 6 ≤ Int32.toNatClampNeg 2) by decide) dL_law_557 ?_
    refine tk_i x2 ex2 ?_
    have hPc : va_P (dC, dI) vwCl (mw b cy) _ := hP.sub [56, 57, 58, 59, 60, 61, 62, 63] rfl
    have hDc := hD.sub (ws' := mw b cy) [56, 57, 58, 59, 60, 61, 62, 63] (by decide) rfl
    have hFc := va_free (wc := mw b cy) hD hS hA [56, 57, 58, 59, 60, 61, 62, 63] rfl
    refine va_calli (va_runV (As := [.int x1, .int x2]) (rest := [.int (-1)]) ⟨hx, hb, hml, hown, hts⟩ (c_X12_node l dC dI cy b _ x1 x2) (cwV 2 hts g_L_law_X12_node_73 rfl rfl rfl (by decide +kernel) ⟨Nat.le_of_ble_eq_true rfl, Nat.le_of_ble_eq_true rfl⟩) (pv_ps hC hPc hDc (ci := 12) (q0 := 0) rfl rfl) rfl rfl hl.1 rfl (lv_room (Nat.le_of_ble_eq_true rfl)) dL_law_558 ⟨Nat.le_of_ble_eq_true rfl, Nat.le_of_ble_eq_true rfl⟩) hS (fun q _ h => hFc q h) hFc (fun r_ u t_ H1 locs ht hvm hw hB hz1 hk1 hS => ?_)
    obtain ⟨hP, hD⟩ := va_join (wr := []) (w1 := []) hP hD [56, 57, 58, 59, 60, 61, 62, 63] [] rfl rfl (by decide) (by decide) hk1 hFc va_P0 va_D0
    generalize H1 = H at hP hS ⊢
    have hP : va_P (dC, dI) vwCl ([]) H := hP
    have hD : va_D A ([]) := hD
    rcases hw with ⟨c799_, rfl⟩ | ⟨c800_, c801_, rfl⟩ | ⟨c802_, c803_, c804_, c805_, c806_, c807_, rfl⟩ | ⟨c808_, c809_, c810_, c811_, c812_, c813_, c814_, rfl⟩ | ⟨c815_, c816_, rfl⟩ | ⟨c817_, c818_, rfl⟩ | ⟨c819_, c820_, rfl⟩ | ⟨c821_, c822_, rfl⟩ | ⟨c823_, c824_, rfl⟩ | ⟨c825_, c826_, rfl⟩ | ⟨c827_, c828_, rfl⟩
    · skip
      refine lv_icmp_eq (tgt := 983) hx hb dL_law_561 (by decide) (fun _ => ?_) (fun c9_ => absurd (by decide) c9_)
      refine lv_iinc (v := 6) (lv' := [(3, .int 6), (2, .ref (b 0)), (1, .ref (a 0)), (0, .ref sc)]) hx hb dL_law_983 hl (k := 0) rfl (by decide) (by decide) rfl (fun ls hl => ?_)
      refine lv_goto (tgt := 18) hx hb dL_law_986 (by decide) ?_
      refine lv_iload_n hx hb dL_law_18 rfl (lv_at hl 0 rfl) ?_
      refine lv_aload_n hx hb dL_law_19 rfl (lv_at hl 3 rfl) ?_
      refine va_slen hx hb hX hbl hbA hS dL_law_20 ?_
      refine tk_i 6 (by decide) ?_
      refine lv_bipush (v := 6) hx hb dL_law_21 (by decide) ?_
      refine lv_isub hx hb dL_law_23 ?_
      refine tk_i 0 (by decide) ?_
      refine lv_icmp_gt (tgt := 989) hx hb dL_law_24 (by decide) (fun _ => ?_) (fun c9_ => absurd (by decide) c9_)
      refine lv_iconst (v := 1) hx hb dL_law_989 (by decide) ?_
      refine va_forget (fun q hq => by have h := hS.2.2 q hq; rw [hAe] at h; exact h) ?_
      refine W.widen (k := 600000) (n := 7302249) (Nat.le_of_ble_eq_true rfl) (Nat.le_of_ble_eq_true rfl) ?_
      exact lw_ret hx hb hr hlocks dL_law_990
    · skip
      exfalso
      have z0_ := tz_lt_r c774_ (show (0 : Int32).toInt = 0 by decide)
      have z1_ := tz_nlt_r c800_ (show (0 : Int32).toInt = 0 by decide)
      omega
    · skip
      exfalso
      have z0_ := tz_lt_r c774_ (show (0 : Int32).toInt = 0 by decide)
      have z1_ := tz_eq_r c802_ (show (0 : Int32).toInt = 0 by decide)
      omega
    · skip
      exfalso
      have z0_ := tz_lt_r c774_ (show (0 : Int32).toInt = 0 by decide)
      have z1_ := tz_eq_r c808_ (show (0 : Int32).toInt = 0 by decide)
      omega
    · skip
      exfalso
      have z0_ := tz_lt_r c774_ (show (0 : Int32).toInt = 0 by decide)
      have z1_ := tz_eq_r c815_ (show (0 : Int32).toInt = 0 by decide)
      omega
    · skip
      exfalso
      have z0_ := tz_lt_r c774_ (show (0 : Int32).toInt = 0 by decide)
      have z1_ := tz_eq_r c817_ (show (0 : Int32).toInt = 0 by decide)
      omega
    · skip
      exfalso
      have z0_ := tz_lt_r c774_ (show (0 : Int32).toInt = 0 by decide)
      have z1_ := tz_eq_r c819_ (show (0 : Int32).toInt = 0 by decide)
      omega
    · skip
      exfalso
      have z0_ := tz_lt_r c774_ (show (0 : Int32).toInt = 0 by decide)
      have z1_ := tz_eq_r c821_ (show (0 : Int32).toInt = 0 by decide)
      omega
    · skip
      exfalso
      have z0_ := tz_lt_r c774_ (show (0 : Int32).toInt = 0 by decide)
      have z1_ := tz_eq_r c823_ (show (0 : Int32).toInt = 0 by decide)
      omega
    · skip
      exfalso
      have z0_ := tz_lt_r c774_ (show (0 : Int32).toInt = 0 by decide)
      have z1_ := tz_eq_r c825_ (show (0 : Int32).toInt = 0 by decide)
      omega
    · skip
      exfalso
      have z0_ := tz_lt_r c774_ (show (0 : Int32).toInt = 0 by decide)
      have z1_ := tz_eq_r c827_ (show (0 : Int32).toInt = 0 by decide)
      omega
  · skip
    refine lv_aload_n hx hb dL_law_547 rfl (lv_at hl 1 rfl) ?_
    refine lv_aload_n hx hb dL_law_548 rfl (lv_at hl 3 rfl) ?_
    refine lv_iload_n hx hb dL_law_549 rfl (lv_at hl 0 rfl) ?_
    refine lv_iconst (v := 1) hx hb dL_law_550 (by decide) ?_
    refine lv_iadd hx hb dL_law_551 ?_
    refine tk_i 1 (by decide) ?_
    refine va_sld hx hb hX hbl hbA hS (show ¬ ((1 : Int32) < 0 ∨ 6 ≤ Int32.toNatClampNeg 1) by decide) dL_law_552 ?_
    refine tk_i x1 ex1 ?_
    refine lv_aload_n hx hb dL_law_553 rfl (lv_at hl 3 rfl) ?_
    refine lv_iload_n hx hb dL_law_554 rfl (lv_at hl 0 rfl) ?_
    refine lv_iconst (v := 2) hx hb dL_law_555 (by decide) ?_
    refine lv_iadd hx hb dL_law_556 ?_
    refine tk_i 2 (by decide) ?_
    refine va_sld hx hb hX hbl hbA hS (show ¬ ((2 : Int32) < 0 ∨ 6 ≤ Int32.toNatClampNeg 2) by decide) dL_law_557 ?_
    refine tk_i x2 ex2 ?_
    have hPc : va_P (dC, dI) vwCl (mw b cy) _ := hP.sub [56, 57, 58, 59, 60, 61, 62, 63] rfl
    have hDc := hD.sub (ws' := mw b cy) [56, 57, 58, 59, 60, 61, 62, 63] (by decide) rfl
    have hFc := va_free (wc := mw b cy) hD hS hA [56, 57, 58, 59, 60, 61, 62, 63] rfl
    refine va_calli (va_runV (As := [.int x1, .int x2]) (rest := [.int (-1)]) ⟨hx, hb, hml, hown, hts⟩ (c_X12_node l dC dI cy b _ x1 x2) (cwV 2 hts g_L_law_X12_node_73 rfl rfl rfl (by decide +kernel) ⟨Nat.le_of_ble_eq_true rfl, Nat.le_of_ble_eq_true rfl⟩) (pv_ps hC hPc hDc (ci := 12) (q0 := 0) rfl rfl) rfl rfl hl.1 rfl (lv_room (Nat.le_of_ble_eq_true rfl)) dL_law_558 ⟨Nat.le_of_ble_eq_true rfl, Nat.le_of_ble_eq_true rfl⟩) hS (fun q _ h => hFc q h) hFc (fun r_ u t_ H1 locs ht hvm hw hB hz1 hk1 hS => ?_)
    obtain ⟨hP, hD⟩ := va_join (wr := []) (w1 := []) hP hD [56, 57, 58, 59, 60, 61, 62, 63] [] rfl rfl (by decide) (by decide) hk1 hFc va_P0 va_D0
    generalize H1 = H at hP hS ⊢
    have hP : va_P (dC, dI) vwCl ([]) H := hP
    have hD : va_D A ([]) := hD
    rcases hw with ⟨c829_, rfl⟩ | ⟨c830_, c831_, rfl⟩ | ⟨c832_, c833_, c834_, c835_, c836_, c837_, rfl⟩ | ⟨c838_, c839_, c840_, c841_, c842_, c843_, c844_, rfl⟩ | ⟨c845_, c846_, rfl⟩ | ⟨c847_, c848_, rfl⟩ | ⟨c849_, c850_, rfl⟩ | ⟨c851_, c852_, rfl⟩ | ⟨c853_, c854_, rfl⟩ | ⟨c855_, c856_, rfl⟩ | ⟨c857_, c858_, rfl⟩
    · skip
      exfalso
      have z0_ := tz_nlt_r c775_ (show (0 : Int32).toInt = 0 by decide)
      have z1_ := tz_le_l c776_ (show (1 : Int32).toInt = 1 by decide)
      have z2_ := tz_lt_r c829_ (show (0 : Int32).toInt = 0 by decide)
      omega
    · skip
      refine lv_icmp_eq (tgt := 983) hx hb dL_law_561 (by decide) (fun _ => ?_) (fun c9_ => absurd (by decide) c9_)
      refine lv_iinc (v := 6) (lv' := [(3, .int 6), (2, .ref (b 0)), (1, .ref (a 0)), (0, .ref sc)]) hx hb dL_law_983 hl (k := 0) rfl (by decide) (by decide) rfl (fun ls hl => ?_)
      refine lv_goto (tgt := 18) hx hb dL_law_986 (by decide) ?_
      refine lv_iload_n hx hb dL_law_18 rfl (lv_at hl 0 rfl) ?_
      refine lv_aload_n hx hb dL_law_19 rfl (lv_at hl 3 rfl) ?_
      refine va_slen hx hb hX hbl hbA hS dL_law_20 ?_
      refine tk_i 6 (by decide) ?_
      refine lv_bipush (v := 6) hx hb dL_law_21 (by decide) ?_
      refine lv_isub hx hb dL_law_23 ?_
      refine tk_i 0 (by decide) ?_
      refine lv_icmp_gt (tgt := 989) hx hb dL_law_24 (by decide) (fun _ => ?_) (fun c9_ => absurd (by decide) c9_)
      refine lv_iconst (v := 1) hx hb dL_law_989 (by decide) ?_
      refine va_forget (fun q hq => by have h := hS.2.2 q hq; rw [hAe] at h; exact h) ?_
      refine W.widen (k := 600000) (n := 7302249) (Nat.le_of_ble_eq_true rfl) (Nat.le_of_ble_eq_true rfl) ?_
      exact lw_ret hx hb hr hlocks dL_law_990
    · skip
      exfalso
      have z0_ := tz_nlt_r c775_ (show (0 : Int32).toInt = 0 by decide)
      have z1_ := tz_le_l c776_ (show (1 : Int32).toInt = 1 by decide)
      have z2_ := tz_eq_r c832_ (show (0 : Int32).toInt = 0 by decide)
      omega
    · skip
      exfalso
      have z0_ := tz_nlt_r c775_ (show (0 : Int32).toInt = 0 by decide)
      have z1_ := tz_le_l c776_ (show (1 : Int32).toInt = 1 by decide)
      have z2_ := tz_eq_r c838_ (show (0 : Int32).toInt = 0 by decide)
      omega
    · skip
      exfalso
      have z0_ := tz_nlt_r c775_ (show (0 : Int32).toInt = 0 by decide)
      have z1_ := tz_le_l c776_ (show (1 : Int32).toInt = 1 by decide)
      have z2_ := tz_eq_r c845_ (show (0 : Int32).toInt = 0 by decide)
      omega
    · skip
      exfalso
      have z0_ := tz_nlt_r c775_ (show (0 : Int32).toInt = 0 by decide)
      have z1_ := tz_le_l c776_ (show (1 : Int32).toInt = 1 by decide)
      have z2_ := tz_eq_r c847_ (show (0 : Int32).toInt = 0 by decide)
      omega
    · skip
      exfalso
      have z0_ := tz_nlt_r c775_ (show (0 : Int32).toInt = 0 by decide)
      have z1_ := tz_le_l c776_ (show (1 : Int32).toInt = 1 by decide)
      have z2_ := tz_eq_r c849_ (show (0 : Int32).toInt = 0 by decide)
      omega
    · skip
      exfalso
      have z0_ := tz_nlt_r c775_ (show (0 : Int32).toInt = 0 by decide)
      have z1_ := tz_le_l c776_ (show (1 : Int32).toInt = 1 by decide)
      have z2_ := tz_eq_r c851_ (show (0 : Int32).toInt = 0 by decide)
      omega
    · skip
      exfalso
      have z0_ := tz_nlt_r c775_ (show (0 : Int32).toInt = 0 by decide)
      have z1_ := tz_le_l c776_ (show (1 : Int32).toInt = 1 by decide)
      have z2_ := tz_eq_r c853_ (show (0 : Int32).toInt = 0 by decide)
      omega
    · skip
      exfalso
      have z0_ := tz_nlt_r c775_ (show (0 : Int32).toInt = 0 by decide)
      have z1_ := tz_le_l c776_ (show (1 : Int32).toInt = 1 by decide)
      have z2_ := tz_eq_r c855_ (show (0 : Int32).toInt = 0 by decide)
      omega
    · skip
      exfalso
      have z0_ := tz_nlt_r c775_ (show (0 : Int32).toInt = 0 by decide)
      have z1_ := tz_le_l c776_ (show (1 : Int32).toInt = 1 by decide)
      have z2_ := tz_eq_r c857_ (show (0 : Int32).toInt = 0 by decide)
      omega
  · skip
    subst c777_
    subst c778_
    refine lv_aload_n hx hb dL_law_547 rfl (lv_at hl 1 rfl) ?_
    refine lv_aload_n hx hb dL_law_548 rfl (lv_at hl 3 rfl) ?_
    refine lv_iload_n hx hb dL_law_549 rfl (lv_at hl 0 rfl) ?_
    refine lv_iconst (v := 1) hx hb dL_law_550 (by decide) ?_
    refine lv_iadd hx hb dL_law_551 ?_
    refine tk_i 1 (by decide) ?_
    refine va_sld hx hb hX hbl hbA hS (show ¬ ((1 : Int32) < 0 ∨ 6 ≤ Int32.toNatClampNeg 1) by decide) dL_law_552 ?_
    refine tk_i 0 ex1 ?_
    refine lv_aload_n hx hb dL_law_553 rfl (lv_at hl 3 rfl) ?_
    refine lv_iload_n hx hb dL_law_554 rfl (lv_at hl 0 rfl) ?_
    refine lv_iconst (v := 2) hx hb dL_law_555 (by decide) ?_
    refine lv_iadd hx hb dL_law_556 ?_
    refine tk_i 2 (by decide) ?_
    refine va_sld hx hb hX hbl hbA hS (show ¬ ((2 : Int32) < 0 ∨ 6 ≤ Int32.toNatClampNeg 2) by decide) dL_law_557 ?_
    refine tk_i 0 ex2 ?_
    have hPc : va_P (dC, dI) vwCl (mw b cy) _ := hP.sub [56, 57, 58, 59, 60, 61, 62, 63] rfl
    have hDc := hD.sub (ws' := mw b cy) [56, 57, 58, 59, 60, 61, 62, 63] (by decide) rfl
    have hFc := va_free (wc := mw b cy) hD hS hA [56, 57, 58, 59, 60, 61, 62, 63] rfl
    refine va_calli (va_runV (As := [.int 0, .int 0]) (rest := [.int 1]) ⟨hx, hb, hml, hown, hts⟩ (c_X12_node l dC dI cy b _ 0 0) (cwV 2 hts g_L_law_X12_node_73 rfl rfl rfl (by decide +kernel) ⟨Nat.le_of_ble_eq_true rfl, Nat.le_of_ble_eq_true rfl⟩) (pv_ps hC hPc hDc (ci := 12) (q0 := 0) rfl rfl) rfl rfl hl.1 rfl (lv_room (Nat.le_of_ble_eq_true rfl)) dL_law_558 ⟨Nat.le_of_ble_eq_true rfl, Nat.le_of_ble_eq_true rfl⟩) hS (fun q _ h => hFc q h) hFc (fun r_ u t_ H1 locs ht hvm hw hB hz1 hk1 hS => ?_)
    obtain ⟨hP, hD⟩ := va_join (wr := []) (w1 := []) hP hD [56, 57, 58, 59, 60, 61, 62, 63] [] rfl rfl (by decide) (by decide) hk1 hFc va_P0 va_D0
    generalize H1 = H at hP hS ⊢
    have hP : va_P (dC, dI) vwCl ([]) H := hP
    have hD : va_D A ([]) := hD
    rcases hw with ⟨c859_, rfl⟩ | ⟨-, c861_, rfl⟩ | ⟨-, c863_, -, -, -, -, rfl⟩ | ⟨-, -, c870_, -, -, -, -, rfl⟩ | ⟨-, c876_, rfl⟩ | ⟨-, c878_, rfl⟩ | ⟨-, c880_, rfl⟩ | ⟨-, c882_, rfl⟩ | ⟨-, -, rfl⟩ | ⟨-, c886_, rfl⟩ | ⟨-, c888_, rfl⟩
    · skip
      exact absurd c859_ (by decide)
    · skip
      exact absurd c861_ (by decide)
    · skip
      exact absurd c863_ (by decide)
    · skip
      exact absurd c870_ (by decide)
    · skip
      exact absurd c876_ (by decide)
    · skip
      exact absurd c878_ (by decide)
    · skip
      exact absurd c880_ (by decide)
    · skip
      exact absurd c882_ (by decide)
    · skip
      refine lv_icmp_eq (tgt := 983) hx hb dL_law_561 (by decide) (fun _ => ?_) (fun c9_ => absurd (by decide) c9_)
      refine lv_iinc (v := 6) (lv' := [(3, .int 6), (2, .ref (b 0)), (1, .ref (a 0)), (0, .ref sc)]) hx hb dL_law_983 hl (k := 0) rfl (by decide) (by decide) rfl (fun ls hl => ?_)
      refine lv_goto (tgt := 18) hx hb dL_law_986 (by decide) ?_
      refine lv_iload_n hx hb dL_law_18 rfl (lv_at hl 0 rfl) ?_
      refine lv_aload_n hx hb dL_law_19 rfl (lv_at hl 3 rfl) ?_
      refine va_slen hx hb hX hbl hbA hS dL_law_20 ?_
      refine tk_i 6 (by decide) ?_
      refine lv_bipush (v := 6) hx hb dL_law_21 (by decide) ?_
      refine lv_isub hx hb dL_law_23 ?_
      refine tk_i 0 (by decide) ?_
      refine lv_icmp_gt (tgt := 989) hx hb dL_law_24 (by decide) (fun _ => ?_) (fun c9_ => absurd (by decide) c9_)
      refine lv_iconst (v := 1) hx hb dL_law_989 (by decide) ?_
      refine va_forget (fun q hq => by have h := hS.2.2 q hq; rw [hAe] at h; exact h) ?_
      refine W.widen (k := 600000) (n := 7302249) (Nat.le_of_ble_eq_true rfl) (Nat.le_of_ble_eq_true rfl) ?_
      exact lw_ret hx hb hr hlocks dL_law_990
    · skip
      exact absurd c886_ (by decide)
    · skip
      exact absurd c888_ (by decide)
  · skip
    subst c779_
    subst c780_
    refine lv_aload_n hx hb dL_law_547 rfl (lv_at hl 1 rfl) ?_
    refine lv_aload_n hx hb dL_law_548 rfl (lv_at hl 3 rfl) ?_
    refine lv_iload_n hx hb dL_law_549 rfl (lv_at hl 0 rfl) ?_
    refine lv_iconst (v := 1) hx hb dL_law_550 (by decide) ?_
    refine lv_iadd hx hb dL_law_551 ?_
    refine tk_i 1 (by decide) ?_
    refine va_sld hx hb hX hbl hbA hS (show ¬ ((1 : Int32) < 0 ∨ 6 ≤ Int32.toNatClampNeg 1) by decide) dL_law_552 ?_
    refine tk_i 0 ex1 ?_
    refine lv_aload_n hx hb dL_law_553 rfl (lv_at hl 3 rfl) ?_
    refine lv_iload_n hx hb dL_law_554 rfl (lv_at hl 0 rfl) ?_
    refine lv_iconst (v := 2) hx hb dL_law_555 (by decide) ?_
    refine lv_iadd hx hb dL_law_556 ?_
    refine tk_i 2 (by decide) ?_
    refine va_sld hx hb hX hbl hbA hS (show ¬ ((2 : Int32) < 0 ∨ 6 ≤ Int32.toNatClampNeg 2) by decide) dL_law_557 ?_
    refine tk_i 1 ex2 ?_
    have hPc : va_P (dC, dI) vwCl (mw b cy) _ := hP.sub [56, 57, 58, 59, 60, 61, 62, 63] rfl
    have hDc := hD.sub (ws' := mw b cy) [56, 57, 58, 59, 60, 61, 62, 63] (by decide) rfl
    have hFc := va_free (wc := mw b cy) hD hS hA [56, 57, 58, 59, 60, 61, 62, 63] rfl
    refine va_calli (va_runV (As := [.int 0, .int 1]) (rest := [.int 0]) ⟨hx, hb, hml, hown, hts⟩ (c_X12_node l dC dI cy b _ 0 1) (cwV 2 hts g_L_law_X12_node_73 rfl rfl rfl (by decide +kernel) ⟨Nat.le_of_ble_eq_true rfl, Nat.le_of_ble_eq_true rfl⟩) (pv_ps hC hPc hDc (ci := 12) (q0 := 0) rfl rfl) rfl rfl hl.1 rfl (lv_room (Nat.le_of_ble_eq_true rfl)) dL_law_558 ⟨Nat.le_of_ble_eq_true rfl, Nat.le_of_ble_eq_true rfl⟩) hS (fun q _ h => hFc q h) hFc (fun r_ u t_ H1 locs ht hvm hw hB hz1 hk1 hS => ?_)
    obtain ⟨hP, hD⟩ := va_join (wr := []) (w1 := []) hP hD [56, 57, 58, 59, 60, 61, 62, 63] [] rfl rfl (by decide) (by decide) hk1 hFc va_P0 va_D0
    generalize H1 = H at hP hS ⊢
    have hP : va_P (dC, dI) vwCl ([]) H := hP
    have hD : va_D A ([]) := hD
    rcases hw with ⟨c889_, rfl⟩ | ⟨-, c891_, rfl⟩ | ⟨-, c893_, -, -, -, -, rfl⟩ | ⟨-, -, c900_, -, -, -, -, rfl⟩ | ⟨-, c906_, rfl⟩ | ⟨-, c908_, rfl⟩ | ⟨-, c910_, rfl⟩ | ⟨-, c912_, rfl⟩ | ⟨-, c914_, rfl⟩ | ⟨-, -, rfl⟩ | ⟨-, c918_, rfl⟩
    · skip
      exact absurd c889_ (by decide)
    · skip
      exact absurd c891_ (by decide)
    · skip
      exact absurd c893_ (by decide)
    · skip
      exact absurd c900_ (by decide)
    · skip
      exact absurd c906_ (by decide)
    · skip
      exact absurd c908_ (by decide)
    · skip
      exact absurd c910_ (by decide)
    · skip
      exact absurd c912_ (by decide)
    · skip
      exact absurd c914_ (by decide)
    · skip
      refine lv_icmp_eq (tgt := 983) hx hb dL_law_561 (by decide) (fun _ => ?_) (fun c9_ => absurd (by decide) c9_)
      refine lv_iinc (v := 6) (lv' := [(3, .int 6), (2, .ref (b 0)), (1, .ref (a 0)), (0, .ref sc)]) hx hb dL_law_983 hl (k := 0) rfl (by decide) (by decide) rfl (fun ls hl => ?_)
      refine lv_goto (tgt := 18) hx hb dL_law_986 (by decide) ?_
      refine lv_iload_n hx hb dL_law_18 rfl (lv_at hl 0 rfl) ?_
      refine lv_aload_n hx hb dL_law_19 rfl (lv_at hl 3 rfl) ?_
      refine va_slen hx hb hX hbl hbA hS dL_law_20 ?_
      refine tk_i 6 (by decide) ?_
      refine lv_bipush (v := 6) hx hb dL_law_21 (by decide) ?_
      refine lv_isub hx hb dL_law_23 ?_
      refine tk_i 0 (by decide) ?_
      refine lv_icmp_gt (tgt := 989) hx hb dL_law_24 (by decide) (fun _ => ?_) (fun c9_ => absurd (by decide) c9_)
      refine lv_iconst (v := 1) hx hb dL_law_989 (by decide) ?_
      refine va_forget (fun q hq => by have h := hS.2.2 q hq; rw [hAe] at h; exact h) ?_
      refine W.widen (k := 600000) (n := 7302249) (Nat.le_of_ble_eq_true rfl) (Nat.le_of_ble_eq_true rfl) ?_
      exact lw_ret hx hb hr hlocks dL_law_990
    · skip
      exact absurd c918_ (by decide)
  · skip
    subst c781_
    subst c782_
    refine lv_aload_n hx hb dL_law_547 rfl (lv_at hl 1 rfl) ?_
    refine lv_aload_n hx hb dL_law_548 rfl (lv_at hl 3 rfl) ?_
    refine lv_iload_n hx hb dL_law_549 rfl (lv_at hl 0 rfl) ?_
    refine lv_iconst (v := 1) hx hb dL_law_550 (by decide) ?_
    refine lv_iadd hx hb dL_law_551 ?_
    refine tk_i 1 (by decide) ?_
    refine va_sld hx hb hX hbl hbA hS (show ¬ ((1 : Int32) < 0 ∨ 6 ≤ Int32.toNatClampNeg 1) by decide) dL_law_552 ?_
    refine tk_i 0 ex1 ?_
    refine lv_aload_n hx hb dL_law_553 rfl (lv_at hl 3 rfl) ?_
    refine lv_iload_n hx hb dL_law_554 rfl (lv_at hl 0 rfl) ?_
    refine lv_iconst (v := 2) hx hb dL_law_555 (by decide) ?_
    refine lv_iadd hx hb dL_law_556 ?_
    refine tk_i 2 (by decide) ?_
    refine va_sld hx hb hX hbl hbA hS (show ¬ ((2 : Int32) < 0 ∨ 6 ≤ Int32.toNatClampNeg 2) by decide) dL_law_557 ?_
    refine tk_i 2 ex2 ?_
    have hPc : va_P (dC, dI) vwCl (mw b cy) _ := hP.sub [56, 57, 58, 59, 60, 61, 62, 63] rfl
    have hDc := hD.sub (ws' := mw b cy) [56, 57, 58, 59, 60, 61, 62, 63] (by decide) rfl
    have hFc := va_free (wc := mw b cy) hD hS hA [56, 57, 58, 59, 60, 61, 62, 63] rfl
    refine va_calli (va_runV (As := [.int 0, .int 2]) (rest := [.int (-1)]) ⟨hx, hb, hml, hown, hts⟩ (c_X12_node l dC dI cy b _ 0 2) (cwV 2 hts g_L_law_X12_node_73 rfl rfl rfl (by decide +kernel) ⟨Nat.le_of_ble_eq_true rfl, Nat.le_of_ble_eq_true rfl⟩) (pv_ps hC hPc hDc (ci := 12) (q0 := 0) rfl rfl) rfl rfl hl.1 rfl (lv_room (Nat.le_of_ble_eq_true rfl)) dL_law_558 ⟨Nat.le_of_ble_eq_true rfl, Nat.le_of_ble_eq_true rfl⟩) hS (fun q _ h => hFc q h) hFc (fun r_ u t_ H1 locs ht hvm hw hB hz1 hk1 hS => ?_)
    obtain ⟨hP, hD⟩ := va_join (wr := []) (w1 := []) hP hD [56, 57, 58, 59, 60, 61, 62, 63] [] rfl rfl (by decide) (by decide) hk1 hFc va_P0 va_D0
    generalize H1 = H at hP hS ⊢
    have hP : va_P (dC, dI) vwCl ([]) H := hP
    have hD : va_D A ([]) := hD
    rcases hw with ⟨c919_, rfl⟩ | ⟨-, c921_, rfl⟩ | ⟨-, c923_, -, -, -, -, rfl⟩ | ⟨-, -, c930_, -, -, -, -, rfl⟩ | ⟨-, c936_, rfl⟩ | ⟨-, c938_, rfl⟩ | ⟨-, c940_, rfl⟩ | ⟨-, c942_, rfl⟩ | ⟨-, c944_, rfl⟩ | ⟨-, c946_, rfl⟩ | ⟨-, -, rfl⟩
    · skip
      exact absurd c919_ (by decide)
    · skip
      exact absurd c921_ (by decide)
    · skip
      exact absurd c923_ (by decide)
    · skip
      exact absurd c930_ (by decide)
    · skip
      exact absurd c936_ (by decide)
    · skip
      exact absurd c938_ (by decide)
    · skip
      exact absurd c940_ (by decide)
    · skip
      exact absurd c942_ (by decide)
    · skip
      exact absurd c944_ (by decide)
    · skip
      exact absurd c946_ (by decide)
    · skip
      refine lv_icmp_eq (tgt := 983) hx hb dL_law_561 (by decide) (fun _ => ?_) (fun c9_ => absurd (by decide) c9_)
      refine lv_iinc (v := 6) (lv' := [(3, .int 6), (2, .ref (b 0)), (1, .ref (a 0)), (0, .ref sc)]) hx hb dL_law_983 hl (k := 0) rfl (by decide) (by decide) rfl (fun ls hl => ?_)
      refine lv_goto (tgt := 18) hx hb dL_law_986 (by decide) ?_
      refine lv_iload_n hx hb dL_law_18 rfl (lv_at hl 0 rfl) ?_
      refine lv_aload_n hx hb dL_law_19 rfl (lv_at hl 3 rfl) ?_
      refine va_slen hx hb hX hbl hbA hS dL_law_20 ?_
      refine tk_i 6 (by decide) ?_
      refine lv_bipush (v := 6) hx hb dL_law_21 (by decide) ?_
      refine lv_isub hx hb dL_law_23 ?_
      refine tk_i 0 (by decide) ?_
      refine lv_icmp_gt (tgt := 989) hx hb dL_law_24 (by decide) (fun _ => ?_) (fun c9_ => absurd (by decide) c9_)
      refine lv_iconst (v := 1) hx hb dL_law_989 (by decide) ?_
      refine va_forget (fun q hq => by have h := hS.2.2 q hq; rw [hAe] at h; exact h) ?_
      refine W.widen (k := 600000) (n := 7302249) (Nat.le_of_ble_eq_true rfl) (Nat.le_of_ble_eq_true rfl) ?_
      exact lw_ret hx hb hr hlocks dL_law_990
  · skip
    subst c783_
    subst c784_
    refine lv_aload_n hx hb dL_law_547 rfl (lv_at hl 1 rfl) ?_
    refine lv_aload_n hx hb dL_law_548 rfl (lv_at hl 3 rfl) ?_
    refine lv_iload_n hx hb dL_law_549 rfl (lv_at hl 0 rfl) ?_
    refine lv_iconst (v := 1) hx hb dL_law_550 (by decide) ?_
    refine lv_iadd hx hb dL_law_551 ?_
    refine tk_i 1 (by decide) ?_
    refine va_sld hx hb hX hbl hbA hS (show ¬ ((1 : Int32) < 0 ∨ 6 ≤ Int32.toNatClampNeg 1) by decide) dL_law_552 ?_
    refine tk_i 0 ex1 ?_
    refine lv_aload_n hx hb dL_law_553 rfl (lv_at hl 3 rfl) ?_
    refine lv_iload_n hx hb dL_law_554 rfl (lv_at hl 0 rfl) ?_
    refine lv_iconst (v := 2) hx hb dL_law_555 (by decide) ?_
    refine lv_iadd hx hb dL_law_556 ?_
    refine tk_i 2 (by decide) ?_
    refine va_sld hx hb hX hbl hbA hS (show ¬ ((2 : Int32) < 0 ∨ 6 ≤ Int32.toNatClampNeg 2) by decide) dL_law_557 ?_
    refine tk_i 30 ex2 ?_
    have hPc : va_P (dC, dI) vwCl (mw b cy) _ := hP.sub [56, 57, 58, 59, 60, 61, 62, 63] rfl
    have hDc := hD.sub (ws' := mw b cy) [56, 57, 58, 59, 60, 61, 62, 63] (by decide) rfl
    have hFc := va_free (wc := mw b cy) hD hS hA [56, 57, 58, 59, 60, 61, 62, 63] rfl
    refine va_calli (va_runV (As := [.int 0, .int 30]) (rest := [.int 0]) ⟨hx, hb, hml, hown, hts⟩ (c_X12_node l dC dI cy b _ 0 30) (cwV 2 hts g_L_law_X12_node_73 rfl rfl rfl (by decide +kernel) ⟨Nat.le_of_ble_eq_true rfl, Nat.le_of_ble_eq_true rfl⟩) (pv_ps hC hPc hDc (ci := 12) (q0 := 0) rfl rfl) rfl rfl hl.1 rfl (lv_room (Nat.le_of_ble_eq_true rfl)) dL_law_558 ⟨Nat.le_of_ble_eq_true rfl, Nat.le_of_ble_eq_true rfl⟩) hS (fun q _ h => hFc q h) hFc (fun r_ u t_ H1 locs ht hvm hw hB hz1 hk1 hS => ?_)
    obtain ⟨hP, hD⟩ := va_join (wr := []) (w1 := []) hP hD [56, 57, 58, 59, 60, 61, 62, 63] [] rfl rfl (by decide) (by decide) hk1 hFc va_P0 va_D0
    generalize H1 = H at hP hS ⊢
    have hP : va_P (dC, dI) vwCl ([]) H := hP
    have hD : va_D A ([]) := hD
    rcases hw with ⟨c949_, rfl⟩ | ⟨-, c951_, rfl⟩ | ⟨-, c953_, c954_, -, -, -, rfl⟩ | ⟨-, -, -, c961_, -, -, -, rfl⟩ | ⟨-, c966_, rfl⟩ | ⟨-, c968_, rfl⟩ | ⟨-, c970_, rfl⟩ | ⟨-, -, rfl⟩ | ⟨-, c974_, rfl⟩ | ⟨-, c976_, rfl⟩ | ⟨-, c978_, rfl⟩
    · skip
      exact absurd c949_ (by decide)
    · skip
      exact absurd c951_ (by decide)
    · skip
      exact absurd c954_ (by decide)
    · skip
      exact absurd c961_ (by decide)
    · skip
      exact absurd c966_ (by decide)
    · skip
      exact absurd c968_ (by decide)
    · skip
      exact absurd c970_ (by decide)
    · skip
      refine lv_icmp_eq (tgt := 983) hx hb dL_law_561 (by decide) (fun _ => ?_) (fun c9_ => absurd (by decide) c9_)
      refine lv_iinc (v := 6) (lv' := [(3, .int 6), (2, .ref (b 0)), (1, .ref (a 0)), (0, .ref sc)]) hx hb dL_law_983 hl (k := 0) rfl (by decide) (by decide) rfl (fun ls hl => ?_)
      refine lv_goto (tgt := 18) hx hb dL_law_986 (by decide) ?_
      refine lv_iload_n hx hb dL_law_18 rfl (lv_at hl 0 rfl) ?_
      refine lv_aload_n hx hb dL_law_19 rfl (lv_at hl 3 rfl) ?_
      refine va_slen hx hb hX hbl hbA hS dL_law_20 ?_
      refine tk_i 6 (by decide) ?_
      refine lv_bipush (v := 6) hx hb dL_law_21 (by decide) ?_
      refine lv_isub hx hb dL_law_23 ?_
      refine tk_i 0 (by decide) ?_
      refine lv_icmp_gt (tgt := 989) hx hb dL_law_24 (by decide) (fun _ => ?_) (fun c9_ => absurd (by decide) c9_)
      refine lv_iconst (v := 1) hx hb dL_law_989 (by decide) ?_
      refine va_forget (fun q hq => by have h := hS.2.2 q hq; rw [hAe] at h; exact h) ?_
      refine W.widen (k := 600000) (n := 7302249) (Nat.le_of_ble_eq_true rfl) (Nat.le_of_ble_eq_true rfl) ?_
      exact lw_ret hx hb hr hlocks dL_law_990
    · skip
      exact absurd c974_ (by decide)
    · skip
      exact absurd c976_ (by decide)
    · skip
      exact absurd c978_ (by decide)
  · skip
    subst c785_
    subst c786_
    refine lv_aload_n hx hb dL_law_547 rfl (lv_at hl 1 rfl) ?_
    refine lv_aload_n hx hb dL_law_548 rfl (lv_at hl 3 rfl) ?_
    refine lv_iload_n hx hb dL_law_549 rfl (lv_at hl 0 rfl) ?_
    refine lv_iconst (v := 1) hx hb dL_law_550 (by decide) ?_
    refine lv_iadd hx hb dL_law_551 ?_
    refine tk_i 1 (by decide) ?_
    refine va_sld hx hb hX hbl hbA hS (show ¬ ((1 : Int32) < 0 ∨ 6 ≤ Int32.toNatClampNeg 1) by decide) dL_law_552 ?_
    refine tk_i 0 ex1 ?_
    refine lv_aload_n hx hb dL_law_553 rfl (lv_at hl 3 rfl) ?_
    refine lv_iload_n hx hb dL_law_554 rfl (lv_at hl 0 rfl) ?_
    refine lv_iconst (v := 2) hx hb dL_law_555 (by decide) ?_
    refine lv_iadd hx hb dL_law_556 ?_
    refine tk_i 2 (by decide) ?_
    refine va_sld hx hb hX hbl hbA hS (show ¬ ((2 : Int32) < 0 ∨ 6 ≤ Int32.toNatClampNeg 2) by decide) dL_law_557 ?_
    refine tk_i 31 ex2 ?_
    have hPc : va_P (dC, dI) vwCl (mw b cy) _ := hP.sub [56, 57, 58, 59, 60, 61, 62, 63] rfl
    have hDc := hD.sub (ws' := mw b cy) [56, 57, 58, 59, 60, 61, 62, 63] (by decide) rfl
    have hFc := va_free (wc := mw b cy) hD hS hA [56, 57, 58, 59, 60, 61, 62, 63] rfl
    refine va_calli (va_runV (As := [.int 0, .int 31]) (rest := [.int 0]) ⟨hx, hb, hml, hown, hts⟩ (c_X12_node l dC dI cy b _ 0 31) (cwV 2 hts g_L_law_X12_node_73 rfl rfl rfl (by decide +kernel) ⟨Nat.le_of_ble_eq_true rfl, Nat.le_of_ble_eq_true rfl⟩) (pv_ps hC hPc hDc (ci := 12) (q0 := 0) rfl rfl) rfl rfl hl.1 rfl (lv_room (Nat.le_of_ble_eq_true rfl)) dL_law_558 ⟨Nat.le_of_ble_eq_true rfl, Nat.le_of_ble_eq_true rfl⟩) hS (fun q _ h => hFc q h) hFc (fun r_ u t_ H1 locs ht hvm hw hB hz1 hk1 hS => ?_)
    obtain ⟨hP, hD⟩ := va_join (wr := []) (w1 := []) hP hD [56, 57, 58, 59, 60, 61, 62, 63] [] rfl rfl (by decide) (by decide) hk1 hFc va_P0 va_D0
    generalize H1 = H at hP hS ⊢
    have hP : va_P (dC, dI) vwCl ([]) H := hP
    have hD : va_D A ([]) := hD
    rcases hw with ⟨c979_, rfl⟩ | ⟨-, c981_, rfl⟩ | ⟨-, c983_, -, c985_, -, -, rfl⟩ | ⟨-, -, -, -, c992_, -, -, rfl⟩ | ⟨-, c996_, rfl⟩ | ⟨-, c998_, rfl⟩ | ⟨-, -, rfl⟩ | ⟨-, c1002_, rfl⟩ | ⟨-, c1004_, rfl⟩ | ⟨-, c1006_, rfl⟩ | ⟨-, c1008_, rfl⟩
    · skip
      exact absurd c979_ (by decide)
    · skip
      exact absurd c981_ (by decide)
    · skip
      exact absurd c985_ (by decide)
    · skip
      exact absurd c992_ (by decide)
    · skip
      exact absurd c996_ (by decide)
    · skip
      exact absurd c998_ (by decide)
    · skip
      refine lv_icmp_eq (tgt := 983) hx hb dL_law_561 (by decide) (fun _ => ?_) (fun c9_ => absurd (by decide) c9_)
      refine lv_iinc (v := 6) (lv' := [(3, .int 6), (2, .ref (b 0)), (1, .ref (a 0)), (0, .ref sc)]) hx hb dL_law_983 hl (k := 0) rfl (by decide) (by decide) rfl (fun ls hl => ?_)
      refine lv_goto (tgt := 18) hx hb dL_law_986 (by decide) ?_
      refine lv_iload_n hx hb dL_law_18 rfl (lv_at hl 0 rfl) ?_
      refine lv_aload_n hx hb dL_law_19 rfl (lv_at hl 3 rfl) ?_
      refine va_slen hx hb hX hbl hbA hS dL_law_20 ?_
      refine tk_i 6 (by decide) ?_
      refine lv_bipush (v := 6) hx hb dL_law_21 (by decide) ?_
      refine lv_isub hx hb dL_law_23 ?_
      refine tk_i 0 (by decide) ?_
      refine lv_icmp_gt (tgt := 989) hx hb dL_law_24 (by decide) (fun _ => ?_) (fun c9_ => absurd (by decide) c9_)
      refine lv_iconst (v := 1) hx hb dL_law_989 (by decide) ?_
      refine va_forget (fun q hq => by have h := hS.2.2 q hq; rw [hAe] at h; exact h) ?_
      refine W.widen (k := 600000) (n := 7302249) (Nat.le_of_ble_eq_true rfl) (Nat.le_of_ble_eq_true rfl) ?_
      exact lw_ret hx hb hr hlocks dL_law_990
    · skip
      exact absurd c1002_ (by decide)
    · skip
      exact absurd c1004_ (by decide)
    · skip
      exact absurd c1006_ (by decide)
    · skip
      exact absurd c1008_ (by decide)
  · skip
    subst c787_
    subst c788_
    refine lv_aload_n hx hb dL_law_547 rfl (lv_at hl 1 rfl) ?_
    refine lv_aload_n hx hb dL_law_548 rfl (lv_at hl 3 rfl) ?_
    refine lv_iload_n hx hb dL_law_549 rfl (lv_at hl 0 rfl) ?_
    refine lv_iconst (v := 1) hx hb dL_law_550 (by decide) ?_
    refine lv_iadd hx hb dL_law_551 ?_
    refine tk_i 1 (by decide) ?_
    refine va_sld hx hb hX hbl hbA hS (show ¬ ((1 : Int32) < 0 ∨ 6 ≤ Int32.toNatClampNeg 1) by decide) dL_law_552 ?_
    refine tk_i 0 ex1 ?_
    refine lv_aload_n hx hb dL_law_553 rfl (lv_at hl 3 rfl) ?_
    refine lv_iload_n hx hb dL_law_554 rfl (lv_at hl 0 rfl) ?_
    refine lv_iconst (v := 2) hx hb dL_law_555 (by decide) ?_
    refine lv_iadd hx hb dL_law_556 ?_
    refine tk_i 2 (by decide) ?_
    refine va_sld hx hb hX hbl hbA hS (show ¬ ((2 : Int32) < 0 ∨ 6 ≤ Int32.toNatClampNeg 2) by decide) dL_law_557 ?_
    refine tk_i 32 ex2 ?_
    have hPc : va_P (dC, dI) vwCl (mw b cy) _ := hP.sub [56, 57, 58, 59, 60, 61, 62, 63] rfl
    have hDc := hD.sub (ws' := mw b cy) [56, 57, 58, 59, 60, 61, 62, 63] (by decide) rfl
    have hFc := va_free (wc := mw b cy) hD hS hA [56, 57, 58, 59, 60, 61, 62, 63] rfl
    refine va_calli (va_runV (As := [.int 0, .int 32]) (rest := [.int (-1)]) ⟨hx, hb, hml, hown, hts⟩ (c_X12_node l dC dI cy b _ 0 32) (cwV 2 hts g_L_law_X12_node_73 rfl rfl rfl (by decide +kernel) ⟨Nat.le_of_ble_eq_true rfl, Nat.le_of_ble_eq_true rfl⟩) (pv_ps hC hPc hDc (ci := 12) (q0 := 0) rfl rfl) rfl rfl hl.1 rfl (lv_room (Nat.le_of_ble_eq_true rfl)) dL_law_558 ⟨Nat.le_of_ble_eq_true rfl, Nat.le_of_ble_eq_true rfl⟩) hS (fun q _ h => hFc q h) hFc (fun r_ u t_ H1 locs ht hvm hw hB hz1 hk1 hS => ?_)
    obtain ⟨hP, hD⟩ := va_join (wr := []) (w1 := []) hP hD [56, 57, 58, 59, 60, 61, 62, 63] [] rfl rfl (by decide) (by decide) hk1 hFc va_P0 va_D0
    generalize H1 = H at hP hS ⊢
    have hP : va_P (dC, dI) vwCl ([]) H := hP
    have hD : va_D A ([]) := hD
    rcases hw with ⟨c1009_, rfl⟩ | ⟨-, c1011_, rfl⟩ | ⟨-, c1013_, -, -, c1016_, -, rfl⟩ | ⟨-, -, -, -, -, c1023_, -, rfl⟩ | ⟨-, c1026_, rfl⟩ | ⟨-, -, rfl⟩ | ⟨-, c1030_, rfl⟩ | ⟨-, c1032_, rfl⟩ | ⟨-, c1034_, rfl⟩ | ⟨-, c1036_, rfl⟩ | ⟨-, c1038_, rfl⟩
    · skip
      exact absurd c1009_ (by decide)
    · skip
      exact absurd c1011_ (by decide)
    · skip
      exact absurd c1016_ (by decide)
    · skip
      exact absurd c1023_ (by decide)
    · skip
      exact absurd c1026_ (by decide)
    · skip
      refine lv_icmp_eq (tgt := 983) hx hb dL_law_561 (by decide) (fun _ => ?_) (fun c9_ => absurd (by decide) c9_)
      refine lv_iinc (v := 6) (lv' := [(3, .int 6), (2, .ref (b 0)), (1, .ref (a 0)), (0, .ref sc)]) hx hb dL_law_983 hl (k := 0) rfl (by decide) (by decide) rfl (fun ls hl => ?_)
      refine lv_goto (tgt := 18) hx hb dL_law_986 (by decide) ?_
      refine lv_iload_n hx hb dL_law_18 rfl (lv_at hl 0 rfl) ?_
      refine lv_aload_n hx hb dL_law_19 rfl (lv_at hl 3 rfl) ?_
      refine va_slen hx hb hX hbl hbA hS dL_law_20 ?_
      refine tk_i 6 (by decide) ?_
      refine lv_bipush (v := 6) hx hb dL_law_21 (by decide) ?_
      refine lv_isub hx hb dL_law_23 ?_
      refine tk_i 0 (by decide) ?_
      refine lv_icmp_gt (tgt := 989) hx hb dL_law_24 (by decide) (fun _ => ?_) (fun c9_ => absurd (by decide) c9_)
      refine lv_iconst (v := 1) hx hb dL_law_989 (by decide) ?_
      refine va_forget (fun q hq => by have h := hS.2.2 q hq; rw [hAe] at h; exact h) ?_
      refine W.widen (k := 600000) (n := 7302249) (Nat.le_of_ble_eq_true rfl) (Nat.le_of_ble_eq_true rfl) ?_
      exact lw_ret hx hb hr hlocks dL_law_990
    · skip
      exact absurd c1030_ (by decide)
    · skip
      exact absurd c1032_ (by decide)
    · skip
      exact absurd c1034_ (by decide)
    · skip
      exact absurd c1036_ (by decide)
    · skip
      exact absurd c1038_ (by decide)
  · skip
    subst c789_
    subst c790_
    refine lv_aload_n hx hb dL_law_547 rfl (lv_at hl 1 rfl) ?_
    refine lv_aload_n hx hb dL_law_548 rfl (lv_at hl 3 rfl) ?_
    refine lv_iload_n hx hb dL_law_549 rfl (lv_at hl 0 rfl) ?_
    refine lv_iconst (v := 1) hx hb dL_law_550 (by decide) ?_
    refine lv_iadd hx hb dL_law_551 ?_
    refine tk_i 1 (by decide) ?_
    refine va_sld hx hb hX hbl hbA hS (show ¬ ((1 : Int32) < 0 ∨ 6 ≤ Int32.toNatClampNeg 1) by decide) dL_law_552 ?_
    refine tk_i 0 ex1 ?_
    refine lv_aload_n hx hb dL_law_553 rfl (lv_at hl 3 rfl) ?_
    refine lv_iload_n hx hb dL_law_554 rfl (lv_at hl 0 rfl) ?_
    refine lv_iconst (v := 2) hx hb dL_law_555 (by decide) ?_
    refine lv_iadd hx hb dL_law_556 ?_
    refine tk_i 2 (by decide) ?_
    refine va_sld hx hb hX hbl hbA hS (show ¬ ((2 : Int32) < 0 ∨ 6 ≤ Int32.toNatClampNeg 2) by decide) dL_law_557 ?_
    refine tk_i 33 ex2 ?_
    have hPc : va_P (dC, dI) vwCl (mw b cy) _ := hP.sub [56, 57, 58, 59, 60, 61, 62, 63] rfl
    have hDc := hD.sub (ws' := mw b cy) [56, 57, 58, 59, 60, 61, 62, 63] (by decide) rfl
    have hFc := va_free (wc := mw b cy) hD hS hA [56, 57, 58, 59, 60, 61, 62, 63] rfl
    refine va_calli (va_runV (As := [.int 0, .int 33]) (rest := [.int (-1)]) ⟨hx, hb, hml, hown, hts⟩ (c_X12_node l dC dI cy b _ 0 33) (cwV 2 hts g_L_law_X12_node_73 rfl rfl rfl (by decide +kernel) ⟨Nat.le_of_ble_eq_true rfl, Nat.le_of_ble_eq_true rfl⟩) (pv_ps hC hPc hDc (ci := 12) (q0 := 0) rfl rfl) rfl rfl hl.1 rfl (lv_room (Nat.le_of_ble_eq_true rfl)) dL_law_558 ⟨Nat.le_of_ble_eq_true rfl, Nat.le_of_ble_eq_true rfl⟩) hS (fun q _ h => hFc q h) hFc (fun r_ u t_ H1 locs ht hvm hw hB hz1 hk1 hS => ?_)
    obtain ⟨hP, hD⟩ := va_join (wr := []) (w1 := []) hP hD [56, 57, 58, 59, 60, 61, 62, 63] [] rfl rfl (by decide) (by decide) hk1 hFc va_P0 va_D0
    generalize H1 = H at hP hS ⊢
    have hP : va_P (dC, dI) vwCl ([]) H := hP
    have hD : va_D A ([]) := hD
    rcases hw with ⟨c1039_, rfl⟩ | ⟨-, c1041_, rfl⟩ | ⟨-, c1043_, -, -, -, c1047_, rfl⟩ | ⟨-, -, -, -, -, -, c1054_, rfl⟩ | ⟨-, -, rfl⟩ | ⟨-, c1058_, rfl⟩ | ⟨-, c1060_, rfl⟩ | ⟨-, c1062_, rfl⟩ | ⟨-, c1064_, rfl⟩ | ⟨-, c1066_, rfl⟩ | ⟨-, c1068_, rfl⟩
    · skip
      exact absurd c1039_ (by decide)
    · skip
      exact absurd c1041_ (by decide)
    · skip
      exact absurd c1047_ (by decide)
    · skip
      exact absurd c1054_ (by decide)
    · skip
      refine lv_icmp_eq (tgt := 983) hx hb dL_law_561 (by decide) (fun _ => ?_) (fun c9_ => absurd (by decide) c9_)
      refine lv_iinc (v := 6) (lv' := [(3, .int 6), (2, .ref (b 0)), (1, .ref (a 0)), (0, .ref sc)]) hx hb dL_law_983 hl (k := 0) rfl (by decide) (by decide) rfl (fun ls hl => ?_)
      refine lv_goto (tgt := 18) hx hb dL_law_986 (by decide) ?_
      refine lv_iload_n hx hb dL_law_18 rfl (lv_at hl 0 rfl) ?_
      refine lv_aload_n hx hb dL_law_19 rfl (lv_at hl 3 rfl) ?_
      refine va_slen hx hb hX hbl hbA hS dL_law_20 ?_
      refine tk_i 6 (by decide) ?_
      refine lv_bipush (v := 6) hx hb dL_law_21 (by decide) ?_
      refine lv_isub hx hb dL_law_23 ?_
      refine tk_i 0 (by decide) ?_
      refine lv_icmp_gt (tgt := 989) hx hb dL_law_24 (by decide) (fun _ => ?_) (fun c9_ => absurd (by decide) c9_)
      refine lv_iconst (v := 1) hx hb dL_law_989 (by decide) ?_
      refine va_forget (fun q hq => by have h := hS.2.2 q hq; rw [hAe] at h; exact h) ?_
      refine W.widen (k := 600000) (n := 7302249) (Nat.le_of_ble_eq_true rfl) (Nat.le_of_ble_eq_true rfl) ?_
      exact lw_ret hx hb hr hlocks dL_law_990
    · skip
      exact absurd c1058_ (by decide)
    · skip
      exact absurd c1060_ (by decide)
    · skip
      exact absurd c1062_ (by decide)
    · skip
      exact absurd c1064_ (by decide)
    · skip
      exact absurd c1066_ (by decide)
    · skip
      exact absurd c1068_ (by decide)
  · skip
    subst c791_
    refine lv_aload_n hx hb dL_law_547 rfl (lv_at hl 1 rfl) ?_
    refine lv_aload_n hx hb dL_law_548 rfl (lv_at hl 3 rfl) ?_
    refine lv_iload_n hx hb dL_law_549 rfl (lv_at hl 0 rfl) ?_
    refine lv_iconst (v := 1) hx hb dL_law_550 (by decide) ?_
    refine lv_iadd hx hb dL_law_551 ?_
    refine tk_i 1 (by decide) ?_
    refine va_sld hx hb hX hbl hbA hS (show ¬ ((1 : Int32) < 0 ∨ 6 ≤ Int32.toNatClampNeg 1) by decide) dL_law_552 ?_
    refine tk_i 0 ex1 ?_
    refine lv_aload_n hx hb dL_law_553 rfl (lv_at hl 3 rfl) ?_
    refine lv_iload_n hx hb dL_law_554 rfl (lv_at hl 0 rfl) ?_
    refine lv_iconst (v := 2) hx hb dL_law_555 (by decide) ?_
    refine lv_iadd hx hb dL_law_556 ?_
    refine tk_i 2 (by decide) ?_
    refine va_sld hx hb hX hbl hbA hS (show ¬ ((2 : Int32) < 0 ∨ 6 ≤ Int32.toNatClampNeg 2) by decide) dL_law_557 ?_
    refine tk_i x2 ex2 ?_
    have hPc : va_P (dC, dI) vwCl (mw b cy) _ := hP.sub [56, 57, 58, 59, 60, 61, 62, 63] rfl
    have hDc := hD.sub (ws' := mw b cy) [56, 57, 58, 59, 60, 61, 62, 63] (by decide) rfl
    have hFc := va_free (wc := mw b cy) hD hS hA [56, 57, 58, 59, 60, 61, 62, 63] rfl
    refine va_calli (va_runV (As := [.int 0, .int x2]) (rest := [.int (-1)]) ⟨hx, hb, hml, hown, hts⟩ (c_X12_node l dC dI cy b _ 0 x2) (cwV 2 hts g_L_law_X12_node_73 rfl rfl rfl (by decide +kernel) ⟨Nat.le_of_ble_eq_true rfl, Nat.le_of_ble_eq_true rfl⟩) (pv_ps hC hPc hDc (ci := 12) (q0 := 0) rfl rfl) rfl rfl hl.1 rfl (lv_room (Nat.le_of_ble_eq_true rfl)) dL_law_558 ⟨Nat.le_of_ble_eq_true rfl, Nat.le_of_ble_eq_true rfl⟩) hS (fun q _ h => hFc q h) hFc (fun r_ u t_ H1 locs ht hvm hw hB hz1 hk1 hS => ?_)
    obtain ⟨hP, hD⟩ := va_join (wr := []) (w1 := []) hP hD [56, 57, 58, 59, 60, 61, 62, 63] [] rfl rfl (by decide) (by decide) hk1 hFc va_P0 va_D0
    generalize H1 = H at hP hS ⊢
    have hP : va_P (dC, dI) vwCl ([]) H := hP
    have hD : va_D A ([]) := hD
    rcases hw with ⟨c1069_, rfl⟩ | ⟨-, c1071_, rfl⟩ | ⟨-, c1073_, c1074_, c1075_, c1076_, c1077_, rfl⟩ | ⟨-, c1079_, c1080_, c1081_, c1082_, c1083_, c1084_, rfl⟩ | ⟨-, c1086_, rfl⟩ | ⟨-, c1088_, rfl⟩ | ⟨-, c1090_, rfl⟩ | ⟨-, c1092_, rfl⟩ | ⟨-, c1094_, rfl⟩ | ⟨-, c1096_, rfl⟩ | ⟨-, c1098_, rfl⟩
    · skip
      exact absurd c1069_ (by decide)
    · skip
      exact absurd c1071_ (by decide)
    · skip
      refine lv_icmp_eq (tgt := 983) hx hb dL_law_561 (by decide) (fun _ => ?_) (fun c9_ => absurd (by decide) c9_)
      refine lv_iinc (v := 6) (lv' := [(3, .int 6), (2, .ref (b 0)), (1, .ref (a 0)), (0, .ref sc)]) hx hb dL_law_983 hl (k := 0) rfl (by decide) (by decide) rfl (fun ls hl => ?_)
      refine lv_goto (tgt := 18) hx hb dL_law_986 (by decide) ?_
      refine lv_iload_n hx hb dL_law_18 rfl (lv_at hl 0 rfl) ?_
      refine lv_aload_n hx hb dL_law_19 rfl (lv_at hl 3 rfl) ?_
      refine va_slen hx hb hX hbl hbA hS dL_law_20 ?_
      refine tk_i 6 (by decide) ?_
      refine lv_bipush (v := 6) hx hb dL_law_21 (by decide) ?_
      refine lv_isub hx hb dL_law_23 ?_
      refine tk_i 0 (by decide) ?_
      refine lv_icmp_gt (tgt := 989) hx hb dL_law_24 (by decide) (fun _ => ?_) (fun c9_ => absurd (by decide) c9_)
      refine lv_iconst (v := 1) hx hb dL_law_989 (by decide) ?_
      refine va_forget (fun q hq => by have h := hS.2.2 q hq; rw [hAe] at h; exact h) ?_
      refine W.widen (k := 600000) (n := 7302249) (Nat.le_of_ble_eq_true rfl) (Nat.le_of_ble_eq_true rfl) ?_
      exact lw_ret hx hb hr hlocks dL_law_990
    · skip
      refine lv_icmp_eq (tgt := 983) hx hb dL_law_561 (by decide) (fun _ => ?_) (fun c9_ => absurd (by decide) c9_)
      refine lv_iinc (v := 6) (lv' := [(3, .int 6), (2, .ref (b 0)), (1, .ref (a 0)), (0, .ref sc)]) hx hb dL_law_983 hl (k := 0) rfl (by decide) (by decide) rfl (fun ls hl => ?_)
      refine lv_goto (tgt := 18) hx hb dL_law_986 (by decide) ?_
      refine lv_iload_n hx hb dL_law_18 rfl (lv_at hl 0 rfl) ?_
      refine lv_aload_n hx hb dL_law_19 rfl (lv_at hl 3 rfl) ?_
      refine va_slen hx hb hX hbl hbA hS dL_law_20 ?_
      refine tk_i 6 (by decide) ?_
      refine lv_bipush (v := 6) hx hb dL_law_21 (by decide) ?_
      refine lv_isub hx hb dL_law_23 ?_
      refine tk_i 0 (by decide) ?_
      refine lv_icmp_gt (tgt := 989) hx hb dL_law_24 (by decide) (fun _ => ?_) (fun c9_ => absurd (by decide) c9_)
      refine lv_iconst (v := 1) hx hb dL_law_989 (by decide) ?_
      refine va_forget (fun q hq => by have h := hS.2.2 q hq; rw [hAe] at h; exact h) ?_
      refine W.widen (k := 600000) (n := 7302249) (Nat.le_of_ble_eq_true rfl) (Nat.le_of_ble_eq_true rfl) ?_
      exact lw_ret hx hb hr hlocks dL_law_990
    · skip
      exfalso
      have z0_ := tz_neq_r c792_ (show (0 : Int32).toInt = 0 by decide)
      have z1_ := tz_neq_r c793_ (show (1 : Int32).toInt = 1 by decide)
      have z2_ := tz_neq_r c794_ (show (2 : Int32).toInt = 2 by decide)
      have z3_ := tz_neq_r c795_ (show (30 : Int32).toInt = 30 by decide)
      have z4_ := tz_neq_r c796_ (show (31 : Int32).toInt = 31 by decide)
      have z5_ := tz_neq_r c797_ (show (32 : Int32).toInt = 32 by decide)
      have z6_ := tz_neq_r c798_ (show (33 : Int32).toInt = 33 by decide)
      have z7_ := tz_eq_r c1086_ (show (33 : Int32).toInt = 33 by decide)
      omega
    · skip
      exfalso
      have z0_ := tz_neq_r c792_ (show (0 : Int32).toInt = 0 by decide)
      have z1_ := tz_neq_r c793_ (show (1 : Int32).toInt = 1 by decide)
      have z2_ := tz_neq_r c794_ (show (2 : Int32).toInt = 2 by decide)
      have z3_ := tz_neq_r c795_ (show (30 : Int32).toInt = 30 by decide)
      have z4_ := tz_neq_r c796_ (show (31 : Int32).toInt = 31 by decide)
      have z5_ := tz_neq_r c797_ (show (32 : Int32).toInt = 32 by decide)
      have z6_ := tz_neq_r c798_ (show (33 : Int32).toInt = 33 by decide)
      have z7_ := tz_eq_r c1088_ (show (32 : Int32).toInt = 32 by decide)
      omega
    · skip
      exfalso
      have z0_ := tz_neq_r c792_ (show (0 : Int32).toInt = 0 by decide)
      have z1_ := tz_neq_r c793_ (show (1 : Int32).toInt = 1 by decide)
      have z2_ := tz_neq_r c794_ (show (2 : Int32).toInt = 2 by decide)
      have z3_ := tz_neq_r c795_ (show (30 : Int32).toInt = 30 by decide)
      have z4_ := tz_neq_r c796_ (show (31 : Int32).toInt = 31 by decide)
      have z5_ := tz_neq_r c797_ (show (32 : Int32).toInt = 32 by decide)
      have z6_ := tz_neq_r c798_ (show (33 : Int32).toInt = 33 by decide)
      have z7_ := tz_eq_r c1090_ (show (31 : Int32).toInt = 31 by decide)
      omega
    · skip
      exfalso
      have z0_ := tz_neq_r c792_ (show (0 : Int32).toInt = 0 by decide)
      have z1_ := tz_neq_r c793_ (show (1 : Int32).toInt = 1 by decide)
      have z2_ := tz_neq_r c794_ (show (2 : Int32).toInt = 2 by decide)
      have z3_ := tz_neq_r c795_ (show (30 : Int32).toInt = 30 by decide)
      have z4_ := tz_neq_r c796_ (show (31 : Int32).toInt = 31 by decide)
      have z5_ := tz_neq_r c797_ (show (32 : Int32).toInt = 32 by decide)
      have z6_ := tz_neq_r c798_ (show (33 : Int32).toInt = 33 by decide)
      have z7_ := tz_eq_r c1092_ (show (30 : Int32).toInt = 30 by decide)
      omega
    · skip
      exfalso
      have z0_ := tz_neq_r c792_ (show (0 : Int32).toInt = 0 by decide)
      have z1_ := tz_neq_r c793_ (show (1 : Int32).toInt = 1 by decide)
      have z2_ := tz_neq_r c794_ (show (2 : Int32).toInt = 2 by decide)
      have z3_ := tz_neq_r c795_ (show (30 : Int32).toInt = 30 by decide)
      have z4_ := tz_neq_r c796_ (show (31 : Int32).toInt = 31 by decide)
      have z5_ := tz_neq_r c797_ (show (32 : Int32).toInt = 32 by decide)
      have z6_ := tz_neq_r c798_ (show (33 : Int32).toInt = 33 by decide)
      have z7_ := tz_eq_r c1094_ (show (0 : Int32).toInt = 0 by decide)
      omega
    · skip
      exfalso
      have z0_ := tz_neq_r c792_ (show (0 : Int32).toInt = 0 by decide)
      have z1_ := tz_neq_r c793_ (show (1 : Int32).toInt = 1 by decide)
      have z2_ := tz_neq_r c794_ (show (2 : Int32).toInt = 2 by decide)
      have z3_ := tz_neq_r c795_ (show (30 : Int32).toInt = 30 by decide)
      have z4_ := tz_neq_r c796_ (show (31 : Int32).toInt = 31 by decide)
      have z5_ := tz_neq_r c797_ (show (32 : Int32).toInt = 32 by decide)
      have z6_ := tz_neq_r c798_ (show (33 : Int32).toInt = 33 by decide)
      have z7_ := tz_eq_r c1096_ (show (1 : Int32).toInt = 1 by decide)
      omega
    · skip
      exfalso
      have z0_ := tz_neq_r c792_ (show (0 : Int32).toInt = 0 by decide)
      have z1_ := tz_neq_r c793_ (show (1 : Int32).toInt = 1 by decide)
      have z2_ := tz_neq_r c794_ (show (2 : Int32).toInt = 2 by decide)
      have z3_ := tz_neq_r c795_ (show (30 : Int32).toInt = 30 by decide)
      have z4_ := tz_neq_r c796_ (show (31 : Int32).toInt = 31 by decide)
      have z5_ := tz_neq_r c797_ (show (32 : Int32).toInt = 32 by decide)
      have z6_ := tz_neq_r c798_ (show (33 : Int32).toInt = 33 by decide)
      have z7_ := tz_eq_r c1098_ (show (2 : Int32).toInt = 2 by decide)
      omega
set_option maxHeartbeats 40000000 in
set_option maxRecDepth 100000 in
theorem lawc_14 {p : Program} {e : Env} {s : State} {m : MethodId} {below : List Frame} {meth : Method} {c : Code} (l : Launch) {sc : Nat} {xs : Nat → Int32} {A : Nat → Prop} {dC : Nat → ClassId} {dI : Nat → Nat → Nat} {cy : Nat → ClassId} {a b : Nat → Nat} {g : Nat → Nat → Option Nat} (hAe : A = fun q => s.heap.size ≤ q) (C0 : lw_At p s m meth c sc 6 xs) (hC : cK dC dI cy s) {H : Heap} {locs : List Loc} {ls : Array Slot} (hP : va_P (dC, dI) vwCl (fw a cy g ++ mw b cy) H) (hD : va_D A (fw a cy g ++ mw b cy)) (hS : va_S A s.heap H locs) (hl : lv_has ls 4 [(3, .int 0), (2, .ref (b 0)), (1, .ref (a 0)), (0, .ref sc)]) : W p l e room_1 s m #[Value.ref sc] below meth c H locs 1000 100000 (lw_Z below #[Value.ref sc] s) (F0 m 566 ls []) := by
  obtain ⟨hx, hb, hr, hml, hown, hts0, hX, hbl, hlocks, -⟩ := C0
  have hown : s.vm.findClass RL = some m.cls := hown
  have hts : ∀ w ∈ v_L_law, w.before #[Value.ref sc] s = true := fun w h => hts0 w (v_L_in w h)
  have hK := hC.1
  have hA : ∀ q : Nat, s.heap.size ≤ q → A q := fun q h => by rw [hAe]; exact h
  have hbA : ¬ A sc := by
    rw [hAe]
    exact Nat.not_le.mpr hbl
  obtain ⟨x0, ex0⟩ : ∃ z : Int32, xs (Int32.toNatClampNeg 0) = z := ⟨_, rfl⟩
  obtain ⟨x1, ex1⟩ : ∃ z : Int32, xs (Int32.toNatClampNeg 1) = z := ⟨_, rfl⟩
  obtain ⟨x2, ex2⟩ : ∃ z : Int32, xs (Int32.toNatClampNeg 2) = z := ⟨_, rfl⟩
  obtain ⟨x3, ex3⟩ : ∃ z : Int32, xs (Int32.toNatClampNeg 3) = z := ⟨_, rfl⟩
  obtain ⟨x4, ex4⟩ : ∃ z : Int32, xs (Int32.toNatClampNeg 4) = z := ⟨_, rfl⟩
  obtain ⟨x5, ex5⟩ : ∃ z : Int32, xs (Int32.toNatClampNeg 5) = z := ⟨_, rfl⟩
  refine lv_aload_n hx hb dL_law_566 rfl (lv_at hl 2 rfl) ?_
  refine lv_aload_n hx hb dL_law_567 rfl (lv_at hl 3 rfl) ?_
  refine lv_iload_n hx hb dL_law_568 rfl (lv_at hl 0 rfl) ?_
  refine lv_iconst (v := 1) hx hb dL_law_569 (by decide) ?_
  refine lv_iadd hx hb dL_law_570 ?_
  refine tk_i 1 (by decide) ?_
  refine va_sld hx hb hX hbl hbA hS (show ¬ ((1 : Int32) < 0 ∨ 6 ≤ Int32.toNatClampNeg 1) by decide) dL_law_571 ?_
  refine tk_i x1 ex1 ?_
  refine lv_aload_n hx hb dL_law_572 rfl (lv_at hl 3 rfl) ?_
  refine lv_iload_n hx hb dL_law_573 rfl (lv_at hl 0 rfl) ?_
  refine lv_iconst (v := 2) hx hb dL_law_574 (by decide) ?_
  refine lv_iadd hx hb dL_law_575 ?_
  refine tk_i 2 (by decide) ?_
  refine va_sld hx hb hX hbl hbA hS (show ¬ ((2 : Int32) < 0 ∨ 6 ≤ Int32.toNatClampNeg 2) by decide) dL_law_576 ?_
  refine tk_i x2 ex2 ?_
  have hPc : va_P (dC, dI) vwCl (fw a cy g) _ := hP.sub [0, 1, 2, 3, 4, 5, 6, 7, 8, 9, 10, 11, 12, 13, 14, 15, 16, 17, 18, 19, 20, 21, 22, 23, 24, 25, 26, 27, 28, 29, 30, 31, 32, 33, 34, 35, 36, 37, 38, 39, 40, 41, 42, 43, 44, 45, 46, 47, 48, 49, 50, 51, 52, 53, 54, 55] rfl
  refine tk_pi (va_runV (As := [.int x1, .int x2]) (rest := []) ⟨hx, hb, hml, hown, hts⟩ (c_X11_code l dC dI cy a g x1 x2) (cwV 2 hts g_L_law_X11_code_74 rfl rfl rfl (by decide +kernel) ⟨Nat.le_of_ble_eq_true rfl, Nat.le_of_ble_eq_true rfl⟩) (pv_pp hC hPc (ci := 11) (q0 := 0) rfl rfl) rfl rfl hl.1 rfl (lv_room (Nat.le_of_ble_eq_true rfl)) dL_law_577 ⟨Nat.le_of_ble_eq_true rfl, Nat.le_of_ble_eq_true rfl⟩) hP hS (fun r_ H locs hw hP hS => ?_)
  rcases hw with ⟨c1099_, rfl⟩ | ⟨c1100_, c1101_, rfl⟩ | ⟨c1102_, rfl⟩
  · skip
    refine lv_aload_n hx hb dL_law_580 rfl (lv_at hl 1 rfl) ?_
    refine lv_aload_n hx hb dL_law_581 rfl (lv_at hl 3 rfl) ?_
    refine lv_iload_n hx hb dL_law_582 rfl (lv_at hl 0 rfl) ?_
    refine lv_iconst (v := 1) hx hb dL_law_583 (by decide) ?_
    refine lv_iadd hx hb dL_law_584 ?_
    refine tk_i 1 (by decide) ?_
    refine va_sld hx hb hX hbl hbA hS (show ¬ ((1 : Int32) < 0 ∨ 6 ≤ Int32.toNatClampNeg 1) by decide) dL_law_585 ?_
    refine tk_i x1 ex1 ?_
    refine lv_aload_n hx hb dL_law_586 rfl (lv_at hl 3 rfl) ?_
    refine lv_iload_n hx hb dL_law_587 rfl (lv_at hl 0 rfl) ?_
    refine lv_iconst (v := 2) hx hb dL_law_588 (by decide) ?_
    refine lv_iadd hx hb dL_law_589 ?_
    refine tk_i 2 (by decide) ?_
    refine va_sld hx hb hX hbl hbA hS (show ¬ ((2 : Int32) < 0 ∨ 6 ≤ Int32.toNatClampNeg 2) by decide) dL_law_590 ?_
    refine tk_i x2 ex2 ?_
    have hPc : va_P (dC, dI) vwCl (mw b cy) _ := hP.sub [56, 57, 58, 59, 60, 61, 62, 63] rfl
    have hDc := hD.sub (ws' := mw b cy) [56, 57, 58, 59, 60, 61, 62, 63] (by decide) rfl
    have hFc := va_free (wc := mw b cy) hD hS hA [56, 57, 58, 59, 60, 61, 62, 63] rfl
    refine va_calli (va_runV (As := [.int x1, .int x2]) (rest := [.int (-1)]) ⟨hx, hb, hml, hown, hts⟩ (c_X12_code l dC dI cy b _ x1 x2) (cwV 2 hts g_L_law_X12_code_77 rfl rfl rfl (by decide +kernel) ⟨Nat.le_of_ble_eq_true rfl, Nat.le_of_ble_eq_true rfl⟩) (pv_ps hC hPc hDc (ci := 12) (q0 := 0) rfl rfl) rfl rfl hl.1 rfl (lv_room (Nat.le_of_ble_eq_true rfl)) dL_law_591 ⟨Nat.le_of_ble_eq_true rfl, Nat.le_of_ble_eq_true rfl⟩) hS (fun q _ h => hFc q h) hFc (fun r_ u t_ H1 locs ht hvm hw hB hz1 hk1 hS => ?_)
    obtain ⟨hP, hD⟩ := va_join (wr := []) (w1 := []) hP hD [56, 57, 58, 59, 60, 61, 62, 63] [] rfl rfl (by decide) (by decide) hk1 hFc va_P0 va_D0
    generalize H1 = H at hP hS ⊢
    have hP : va_P (dC, dI) vwCl ([]) H := hP
    have hD : va_D A ([]) := hD
    rcases hw with ⟨c1103_, rfl⟩ | ⟨c1104_, c1105_, rfl⟩ | ⟨c1106_, rfl⟩
    · skip
      refine lv_icmp_eq (tgt := 983) hx hb dL_law_594 (by decide) (fun _ => ?_) (fun c9_ => absurd (by decide) c9_)
      refine lv_iinc (v := 6) (lv' := [(3, .int 6), (2, .ref (b 0)), (1, .ref (a 0)), (0, .ref sc)]) hx hb dL_law_983 hl (k := 0) rfl (by decide) (by decide) rfl (fun ls hl => ?_)
      refine lv_goto (tgt := 18) hx hb dL_law_986 (by decide) ?_
      refine lv_iload_n hx hb dL_law_18 rfl (lv_at hl 0 rfl) ?_
      refine lv_aload_n hx hb dL_law_19 rfl (lv_at hl 3 rfl) ?_
      refine va_slen hx hb hX hbl hbA hS dL_law_20 ?_
      refine tk_i 6 (by decide) ?_
      refine lv_bipush (v := 6) hx hb dL_law_21 (by decide) ?_
      refine lv_isub hx hb dL_law_23 ?_
      refine tk_i 0 (by decide) ?_
      refine lv_icmp_gt (tgt := 989) hx hb dL_law_24 (by decide) (fun _ => ?_) (fun c9_ => absurd (by decide) c9_)
      refine lv_iconst (v := 1) hx hb dL_law_989 (by decide) ?_
      refine va_forget (fun q hq => by have h := hS.2.2 q hq; rw [hAe] at h; exact h) ?_
      refine W.widen (k := 600000) (n := 7302249) (Nat.le_of_ble_eq_true rfl) (Nat.le_of_ble_eq_true rfl) ?_
      exact lw_ret hx hb hr hlocks dL_law_990
    · skip
      exfalso
      have z0_ := tz_lt_r c1099_ (show (0 : Int32).toInt = 0 by decide)
      have z1_ := tz_nlt_r c1104_ (show (0 : Int32).toInt = 0 by decide)
      omega
    · skip
      exfalso
      have z0_ := tz_lt_r c1099_ (show (0 : Int32).toInt = 0 by decide)
      have z1_ := tz_eq_r c1106_ (show (0 : Int32).toInt = 0 by decide)
      omega
  · skip
    refine lv_aload_n hx hb dL_law_580 rfl (lv_at hl 1 rfl) ?_
    refine lv_aload_n hx hb dL_law_581 rfl (lv_at hl 3 rfl) ?_
    refine lv_iload_n hx hb dL_law_582 rfl (lv_at hl 0 rfl) ?_
    refine lv_iconst (v := 1) hx hb dL_law_583 (by decide) ?_
    refine lv_iadd hx hb dL_law_584 ?_
    refine tk_i 1 (by decide) ?_
    refine va_sld hx hb hX hbl hbA hS (show ¬ ((1 : Int32) < 0 ∨ 6 ≤ Int32.toNatClampNeg 1) by decide) dL_law_585 ?_
    refine tk_i x1 ex1 ?_
    refine lv_aload_n hx hb dL_law_586 rfl (lv_at hl 3 rfl) ?_
    refine lv_iload_n hx hb dL_law_587 rfl (lv_at hl 0 rfl) ?_
    refine lv_iconst (v := 2) hx hb dL_law_588 (by decide) ?_
    refine lv_iadd hx hb dL_law_589 ?_
    refine tk_i 2 (by decide) ?_
    refine va_sld hx hb hX hbl hbA hS (show ¬ ((2 : Int32) < 0 ∨ 6 ≤ Int32.toNatClampNeg 2) by decide) dL_law_590 ?_
    refine tk_i x2 ex2 ?_
    have hPc : va_P (dC, dI) vwCl (mw b cy) _ := hP.sub [56, 57, 58, 59, 60, 61, 62, 63] rfl
    have hDc := hD.sub (ws' := mw b cy) [56, 57, 58, 59, 60, 61, 62, 63] (by decide) rfl
    have hFc := va_free (wc := mw b cy) hD hS hA [56, 57, 58, 59, 60, 61, 62, 63] rfl
    refine va_calli (va_runV (As := [.int x1, .int x2]) (rest := [.int (-1)]) ⟨hx, hb, hml, hown, hts⟩ (c_X12_code l dC dI cy b _ x1 x2) (cwV 2 hts g_L_law_X12_code_77 rfl rfl rfl (by decide +kernel) ⟨Nat.le_of_ble_eq_true rfl, Nat.le_of_ble_eq_true rfl⟩) (pv_ps hC hPc hDc (ci := 12) (q0 := 0) rfl rfl) rfl rfl hl.1 rfl (lv_room (Nat.le_of_ble_eq_true rfl)) dL_law_591 ⟨Nat.le_of_ble_eq_true rfl, Nat.le_of_ble_eq_true rfl⟩) hS (fun q _ h => hFc q h) hFc (fun r_ u t_ H1 locs ht hvm hw hB hz1 hk1 hS => ?_)
    obtain ⟨hP, hD⟩ := va_join (wr := []) (w1 := []) hP hD [56, 57, 58, 59, 60, 61, 62, 63] [] rfl rfl (by decide) (by decide) hk1 hFc va_P0 va_D0
    generalize H1 = H at hP hS ⊢
    have hP : va_P (dC, dI) vwCl ([]) H := hP
    have hD : va_D A ([]) := hD
    rcases hw with ⟨c1107_, rfl⟩ | ⟨c1108_, c1109_, rfl⟩ | ⟨c1110_, rfl⟩
    · skip
      exfalso
      have z0_ := tz_nlt_r c1100_ (show (0 : Int32).toInt = 0 by decide)
      have z1_ := tz_le_l c1101_ (show (1 : Int32).toInt = 1 by decide)
      have z2_ := tz_lt_r c1107_ (show (0 : Int32).toInt = 0 by decide)
      omega
    · skip
      refine lv_icmp_eq (tgt := 983) hx hb dL_law_594 (by decide) (fun _ => ?_) (fun c9_ => absurd (by decide) c9_)
      refine lv_iinc (v := 6) (lv' := [(3, .int 6), (2, .ref (b 0)), (1, .ref (a 0)), (0, .ref sc)]) hx hb dL_law_983 hl (k := 0) rfl (by decide) (by decide) rfl (fun ls hl => ?_)
      refine lv_goto (tgt := 18) hx hb dL_law_986 (by decide) ?_
      refine lv_iload_n hx hb dL_law_18 rfl (lv_at hl 0 rfl) ?_
      refine lv_aload_n hx hb dL_law_19 rfl (lv_at hl 3 rfl) ?_
      refine va_slen hx hb hX hbl hbA hS dL_law_20 ?_
      refine tk_i 6 (by decide) ?_
      refine lv_bipush (v := 6) hx hb dL_law_21 (by decide) ?_
      refine lv_isub hx hb dL_law_23 ?_
      refine tk_i 0 (by decide) ?_
      refine lv_icmp_gt (tgt := 989) hx hb dL_law_24 (by decide) (fun _ => ?_) (fun c9_ => absurd (by decide) c9_)
      refine lv_iconst (v := 1) hx hb dL_law_989 (by decide) ?_
      refine va_forget (fun q hq => by have h := hS.2.2 q hq; rw [hAe] at h; exact h) ?_
      refine W.widen (k := 600000) (n := 7302249) (Nat.le_of_ble_eq_true rfl) (Nat.le_of_ble_eq_true rfl) ?_
      exact lw_ret hx hb hr hlocks dL_law_990
    · skip
      exfalso
      have z0_ := tz_nlt_r c1100_ (show (0 : Int32).toInt = 0 by decide)
      have z1_ := tz_le_l c1101_ (show (1 : Int32).toInt = 1 by decide)
      have z2_ := tz_eq_r c1110_ (show (0 : Int32).toInt = 0 by decide)
      omega
  · skip
    subst c1102_
    refine lv_aload_n hx hb dL_law_580 rfl (lv_at hl 1 rfl) ?_
    refine lv_aload_n hx hb dL_law_581 rfl (lv_at hl 3 rfl) ?_
    refine lv_iload_n hx hb dL_law_582 rfl (lv_at hl 0 rfl) ?_
    refine lv_iconst (v := 1) hx hb dL_law_583 (by decide) ?_
    refine lv_iadd hx hb dL_law_584 ?_
    refine tk_i 1 (by decide) ?_
    refine va_sld hx hb hX hbl hbA hS (show ¬ ((1 : Int32) < 0 ∨ 6 ≤ Int32.toNatClampNeg 1) by decide) dL_law_585 ?_
    refine tk_i 0 ex1 ?_
    refine lv_aload_n hx hb dL_law_586 rfl (lv_at hl 3 rfl) ?_
    refine lv_iload_n hx hb dL_law_587 rfl (lv_at hl 0 rfl) ?_
    refine lv_iconst (v := 2) hx hb dL_law_588 (by decide) ?_
    refine lv_iadd hx hb dL_law_589 ?_
    refine tk_i 2 (by decide) ?_
    refine va_sld hx hb hX hbl hbA hS (show ¬ ((2 : Int32) < 0 ∨ 6 ≤ Int32.toNatClampNeg 2) by decide) dL_law_590 ?_
    refine tk_i x2 ex2 ?_
    have hPc : va_P (dC, dI) vwCl (mw b cy) _ := hP.sub [56, 57, 58, 59, 60, 61, 62, 63] rfl
    have hDc := hD.sub (ws' := mw b cy) [56, 57, 58, 59, 60, 61, 62, 63] (by decide) rfl
    have hFc := va_free (wc := mw b cy) hD hS hA [56, 57, 58, 59, 60, 61, 62, 63] rfl
    refine va_calli (va_runV (As := [.int 0, .int x2]) (rest := [.int (-1)]) ⟨hx, hb, hml, hown, hts⟩ (c_X12_code l dC dI cy b _ 0 x2) (cwV 2 hts g_L_law_X12_code_77 rfl rfl rfl (by decide +kernel) ⟨Nat.le_of_ble_eq_true rfl, Nat.le_of_ble_eq_true rfl⟩) (pv_ps hC hPc hDc (ci := 12) (q0 := 0) rfl rfl) rfl rfl hl.1 rfl (lv_room (Nat.le_of_ble_eq_true rfl)) dL_law_591 ⟨Nat.le_of_ble_eq_true rfl, Nat.le_of_ble_eq_true rfl⟩) hS (fun q _ h => hFc q h) hFc (fun r_ u t_ H1 locs ht hvm hw hB hz1 hk1 hS => ?_)
    obtain ⟨hP, hD⟩ := va_join (wr := []) (w1 := []) hP hD [56, 57, 58, 59, 60, 61, 62, 63] [] rfl rfl (by decide) (by decide) hk1 hFc va_P0 va_D0
    generalize H1 = H at hP hS ⊢
    have hP : va_P (dC, dI) vwCl ([]) H := hP
    have hD : va_D A ([]) := hD
    rcases hw with ⟨c1111_, rfl⟩ | ⟨-, c1113_, rfl⟩ | ⟨-, rfl⟩
    · skip
      exact absurd c1111_ (by decide)
    · skip
      exact absurd c1113_ (by decide)
    · skip
      refine lv_icmp_eq (tgt := 983) hx hb dL_law_594 (by decide) (fun _ => ?_) (fun c9_ => absurd (by decide) c9_)
      refine lv_iinc (v := 6) (lv' := [(3, .int 6), (2, .ref (b 0)), (1, .ref (a 0)), (0, .ref sc)]) hx hb dL_law_983 hl (k := 0) rfl (by decide) (by decide) rfl (fun ls hl => ?_)
      refine lv_goto (tgt := 18) hx hb dL_law_986 (by decide) ?_
      refine lv_iload_n hx hb dL_law_18 rfl (lv_at hl 0 rfl) ?_
      refine lv_aload_n hx hb dL_law_19 rfl (lv_at hl 3 rfl) ?_
      refine va_slen hx hb hX hbl hbA hS dL_law_20 ?_
      refine tk_i 6 (by decide) ?_
      refine lv_bipush (v := 6) hx hb dL_law_21 (by decide) ?_
      refine lv_isub hx hb dL_law_23 ?_
      refine tk_i 0 (by decide) ?_
      refine lv_icmp_gt (tgt := 989) hx hb dL_law_24 (by decide) (fun _ => ?_) (fun c9_ => absurd (by decide) c9_)
      refine lv_iconst (v := 1) hx hb dL_law_989 (by decide) ?_
      refine va_forget (fun q hq => by have h := hS.2.2 q hq; rw [hAe] at h; exact h) ?_
      refine W.widen (k := 600000) (n := 7302249) (Nat.le_of_ble_eq_true rfl) (Nat.le_of_ble_eq_true rfl) ?_
      exact lw_ret hx hb hr hlocks dL_law_990
set_option maxHeartbeats 40000000 in
set_option maxRecDepth 100000 in
theorem lawc_15 {p : Program} {e : Env} {s : State} {m : MethodId} {below : List Frame} {meth : Method} {c : Code} (l : Launch) {sc : Nat} {xs : Nat → Int32} {A : Nat → Prop} {dC : Nat → ClassId} {dI : Nat → Nat → Nat} {cy : Nat → ClassId} {a b : Nat → Nat} {g : Nat → Nat → Option Nat} (hAe : A = fun q => s.heap.size ≤ q) (C0 : lw_At p s m meth c sc 6 xs) (hC : cK dC dI cy s) {H : Heap} {locs : List Loc} {ls : Array Slot} (hP : va_P (dC, dI) vwCl (fw a cy g ++ mw b cy) H) (hD : va_D A (fw a cy g ++ mw b cy)) (hS : va_S A s.heap H locs) (hl : lv_has ls 4 [(3, .int 0), (2, .ref (b 0)), (1, .ref (a 0)), (0, .ref sc)]) : W p l e room_1 s m #[Value.ref sc] below meth c H locs 1000 100000 (lw_Z below #[Value.ref sc] s) (F0 m 599 ls []) := by
  obtain ⟨hx, hb, hr, hml, hown, hts0, hX, hbl, hlocks, -⟩ := C0
  have hown : s.vm.findClass RL = some m.cls := hown
  have hts : ∀ w ∈ v_L_law, w.before #[Value.ref sc] s = true := fun w h => hts0 w (v_L_in w h)
  have hK := hC.1
  have hA : ∀ q : Nat, s.heap.size ≤ q → A q := fun q h => by rw [hAe]; exact h
  have hbA : ¬ A sc := by
    rw [hAe]
    exact Nat.not_le.mpr hbl
  obtain ⟨x0, ex0⟩ : ∃ z : Int32, xs (Int32.toNatClampNeg 0) = z := ⟨_, rfl⟩
  obtain ⟨x1, ex1⟩ : ∃ z : Int32, xs (Int32.toNatClampNeg 1) = z := ⟨_, rfl⟩
  obtain ⟨x2, ex2⟩ : ∃ z : Int32, xs (Int32.toNatClampNeg 2) = z := ⟨_, rfl⟩
  obtain ⟨x3, ex3⟩ : ∃ z : Int32, xs (Int32.toNatClampNeg 3) = z := ⟨_, rfl⟩
  obtain ⟨x4, ex4⟩ : ∃ z : Int32, xs (Int32.toNatClampNeg 4) = z := ⟨_, rfl⟩
  obtain ⟨x5, ex5⟩ : ∃ z : Int32, xs (Int32.toNatClampNeg 5) = z := ⟨_, rfl⟩
  refine lv_aload_n hx hb dL_law_599 rfl (lv_at hl 2 rfl) ?_
  refine lv_aload_n hx hb dL_law_600 rfl (lv_at hl 3 rfl) ?_
  refine lv_iload_n hx hb dL_law_601 rfl (lv_at hl 0 rfl) ?_
  refine lv_iconst (v := 1) hx hb dL_law_602 (by decide) ?_
  refine lv_iadd hx hb dL_law_603 ?_
  refine tk_i 1 (by decide) ?_
  refine va_sld hx hb hX hbl hbA hS (show ¬ ((1 : Int32) < 0 ∨ 6 ≤ Int32.toNatClampNeg 1) by decide) dL_law_604 ?_
  refine tk_i x1 ex1 ?_
  refine lv_aload_n hx hb dL_law_605 rfl (lv_at hl 3 rfl) ?_
  refine lv_iload_n hx hb dL_law_606 rfl (lv_at hl 0 rfl) ?_
  refine lv_iconst (v := 2) hx hb dL_law_607 (by decide) ?_
  refine lv_iadd hx hb dL_law_608 ?_
  refine tk_i 2 (by decide) ?_
  refine va_sld hx hb hX hbl hbA hS (show ¬ ((2 : Int32) < 0 ∨ 6 ≤ Int32.toNatClampNeg 2) by decide) dL_law_609 ?_
  refine tk_i x2 ex2 ?_
  have hPc : va_P (dC, dI) vwCl (fw a cy g) _ := hP.sub [0, 1, 2, 3, 4, 5, 6, 7, 8, 9, 10, 11, 12, 13, 14, 15, 16, 17, 18, 19, 20, 21, 22, 23, 24, 25, 26, 27, 28, 29, 30, 31, 32, 33, 34, 35, 36, 37, 38, 39, 40, 41, 42, 43, 44, 45, 46, 47, 48, 49, 50, 51, 52, 53, 54, 55] rfl
  refine tk_pi (va_runV (As := [.int x1, .int x2]) (rest := []) ⟨hx, hb, hml, hown, hts⟩ (c_X11_lookUp l dC dI cy a g x1 x2) (cwV 2 hts g_L_law_X11_lookUp_78 rfl rfl rfl (by decide +kernel) ⟨Nat.le_of_ble_eq_true rfl, Nat.le_of_ble_eq_true rfl⟩) (pv_pp hC hPc (ci := 11) (q0 := 0) rfl rfl) rfl rfl hl.1 rfl (lv_room (Nat.le_of_ble_eq_true rfl)) dL_law_610 ⟨Nat.le_of_ble_eq_true rfl, Nat.le_of_ble_eq_true rfl⟩) hP hS (fun r_ H locs hw hP hS => ?_)
  rcases hw with ⟨c1115_, rfl⟩ | ⟨c1116_, c1117_, rfl⟩ | ⟨c1118_, rfl⟩
  · skip
    refine lv_aload_n hx hb dL_law_613 rfl (lv_at hl 1 rfl) ?_
    refine lv_aload_n hx hb dL_law_614 rfl (lv_at hl 3 rfl) ?_
    refine lv_iload_n hx hb dL_law_615 rfl (lv_at hl 0 rfl) ?_
    refine lv_iconst (v := 1) hx hb dL_law_616 (by decide) ?_
    refine lv_iadd hx hb dL_law_617 ?_
    refine tk_i 1 (by decide) ?_
    refine va_sld hx hb hX hbl hbA hS (show ¬ ((1 : Int32) < 0 ∨ 6 ≤ Int32.toNatClampNeg 1) by decide) dL_law_618 ?_
    refine tk_i x1 ex1 ?_
    refine lv_aload_n hx hb dL_law_619 rfl (lv_at hl 3 rfl) ?_
    refine lv_iload_n hx hb dL_law_620 rfl (lv_at hl 0 rfl) ?_
    refine lv_iconst (v := 2) hx hb dL_law_621 (by decide) ?_
    refine lv_iadd hx hb dL_law_622 ?_
    refine tk_i 2 (by decide) ?_
    refine va_sld hx hb hX hbl hbA hS (show ¬ ((2 : Int32) < 0 ∨ 6 ≤ Int32.toNatClampNeg 2) by decide) dL_law_623 ?_
    refine tk_i x2 ex2 ?_
    have hPc : va_P (dC, dI) vwCl (mw b cy) _ := hP.sub [56, 57, 58, 59, 60, 61, 62, 63] rfl
    have hDc := hD.sub (ws' := mw b cy) [56, 57, 58, 59, 60, 61, 62, 63] (by decide) rfl
    have hFc := va_free (wc := mw b cy) hD hS hA [56, 57, 58, 59, 60, 61, 62, 63] rfl
    refine va_calli (va_runV (As := [.int x1, .int x2]) (rest := [.int (-1)]) ⟨hx, hb, hml, hown, hts⟩ (c_X12_lookUp l dC dI cy b _ x1 x2) (cwV 2 hts g_L_law_X12_lookUp_81 rfl rfl rfl (by decide +kernel) ⟨Nat.le_of_ble_eq_true rfl, Nat.le_of_ble_eq_true rfl⟩) (pv_ps hC hPc hDc (ci := 12) (q0 := 0) rfl rfl) rfl rfl hl.1 rfl (lv_room (Nat.le_of_ble_eq_true rfl)) dL_law_624 ⟨Nat.le_of_ble_eq_true rfl, Nat.le_of_ble_eq_true rfl⟩) hS (fun q _ h => hFc q h) hFc (fun r_ u t_ H1 locs ht hvm hw hB hz1 hk1 hS => ?_)
    obtain ⟨hP, hD⟩ := va_join (wr := []) (w1 := []) hP hD [56, 57, 58, 59, 60, 61, 62, 63] [] rfl rfl (by decide) (by decide) hk1 hFc va_P0 va_D0
    generalize H1 = H at hP hS ⊢
    have hP : va_P (dC, dI) vwCl ([]) H := hP
    have hD : va_D A ([]) := hD
    rcases hw with ⟨c1119_, rfl⟩ | ⟨c1120_, c1121_, rfl⟩ | ⟨c1122_, c1123_, rfl⟩ | ⟨c1124_, c1125_, c1126_, rfl⟩ | ⟨c1127_, c1128_, c1129_, rfl⟩
    · skip
      refine lv_icmp_eq (tgt := 983) hx hb dL_law_627 (by decide) (fun _ => ?_) (fun c9_ => absurd (by decide) c9_)
      refine lv_iinc (v := 6) (lv' := [(3, .int 6), (2, .ref (b 0)), (1, .ref (a 0)), (0, .ref sc)]) hx hb dL_law_983 hl (k := 0) rfl (by decide) (by decide) rfl (fun ls hl => ?_)
      refine lv_goto (tgt := 18) hx hb dL_law_986 (by decide) ?_
      refine lv_iload_n hx hb dL_law_18 rfl (lv_at hl 0 rfl) ?_
      refine lv_aload_n hx hb dL_law_19 rfl (lv_at hl 3 rfl) ?_
      refine va_slen hx hb hX hbl hbA hS dL_law_20 ?_
      refine tk_i 6 (by decide) ?_
      refine lv_bipush (v := 6) hx hb dL_law_21 (by decide) ?_
      refine lv_isub hx hb dL_law_23 ?_
      refine tk_i 0 (by decide) ?_
      refine lv_icmp_gt (tgt := 989) hx hb dL_law_24 (by decide) (fun _ => ?_) (fun c9_ => absurd (by decide) c9_)
      refine lv_iconst (v := 1) hx hb dL_law_989 (by decide) ?_
      refine va_forget (fun q hq => by have h := hS.2.2 q hq; rw [hAe] at h; exact h) ?_
      refine W.widen (k := 600000) (n := 7302249) (Nat.le_of_ble_eq_true rfl) (Nat.le_of_ble_eq_true rfl) ?_
      exact lw_ret hx hb hr hlocks dL_law_990
    · skip
      exfalso
      have z0_ := tz_lt_r c1115_ (show (0 : Int32).toInt = 0 by decide)
      have z1_ := tz_nlt_r c1120_ (show (0 : Int32).toInt = 0 by decide)
      omega
    · skip
      exfalso
      have z0_ := tz_lt_r c1115_ (show (0 : Int32).toInt = 0 by decide)
      have z1_ := tz_eq_r c1122_ (show (0 : Int32).toInt = 0 by decide)
      omega
    · skip
      exfalso
      have z0_ := tz_lt_r c1115_ (show (0 : Int32).toInt = 0 by decide)
      have z1_ := tz_eq_r c1124_ (show (0 : Int32).toInt = 0 by decide)
      omega
    · skip
      exfalso
      have z0_ := tz_lt_r c1115_ (show (0 : Int32).toInt = 0 by decide)
      have z1_ := tz_eq_r c1127_ (show (0 : Int32).toInt = 0 by decide)
      omega
  · skip
    refine lv_aload_n hx hb dL_law_613 rfl (lv_at hl 1 rfl) ?_
    refine lv_aload_n hx hb dL_law_614 rfl (lv_at hl 3 rfl) ?_
    refine lv_iload_n hx hb dL_law_615 rfl (lv_at hl 0 rfl) ?_
    refine lv_iconst (v := 1) hx hb dL_law_616 (by decide) ?_
    refine lv_iadd hx hb dL_law_617 ?_
    refine tk_i 1 (by decide) ?_
    refine va_sld hx hb hX hbl hbA hS (show ¬ ((1 : Int32) < 0 ∨ 6 ≤ Int32.toNatClampNeg 1) by decide) dL_law_618 ?_
    refine tk_i x1 ex1 ?_
    refine lv_aload_n hx hb dL_law_619 rfl (lv_at hl 3 rfl) ?_
    refine lv_iload_n hx hb dL_law_620 rfl (lv_at hl 0 rfl) ?_
    refine lv_iconst (v := 2) hx hb dL_law_621 (by decide) ?_
    refine lv_iadd hx hb dL_law_622 ?_
    refine tk_i 2 (by decide) ?_
    refine va_sld hx hb hX hbl hbA hS (show ¬ ((2 : Int32) < 0 ∨ 6 ≤ Int32.toNatClampNeg 2) by decide) dL_law_623 ?_
    refine tk_i x2 ex2 ?_
    have hPc : va_P (dC, dI) vwCl (mw b cy) _ := hP.sub [56, 57, 58, 59, 60, 61, 62, 63] rfl
    have hDc := hD.sub (ws' := mw b cy) [56, 57, 58, 59, 60, 61, 62, 63] (by decide) rfl
    have hFc := va_free (wc := mw b cy) hD hS hA [56, 57, 58, 59, 60, 61, 62, 63] rfl
    refine va_calli (va_runV (As := [.int x1, .int x2]) (rest := [.int (-1)]) ⟨hx, hb, hml, hown, hts⟩ (c_X12_lookUp l dC dI cy b _ x1 x2) (cwV 2 hts g_L_law_X12_lookUp_81 rfl rfl rfl (by decide +kernel) ⟨Nat.le_of_ble_eq_true rfl, Nat.le_of_ble_eq_true rfl⟩) (pv_ps hC hPc hDc (ci := 12) (q0 := 0) rfl rfl) rfl rfl hl.1 rfl (lv_room (Nat.le_of_ble_eq_true rfl)) dL_law_624 ⟨Nat.le_of_ble_eq_true rfl, Nat.le_of_ble_eq_true rfl⟩) hS (fun q _ h => hFc q h) hFc (fun r_ u t_ H1 locs ht hvm hw hB hz1 hk1 hS => ?_)
    obtain ⟨hP, hD⟩ := va_join (wr := []) (w1 := []) hP hD [56, 57, 58, 59, 60, 61, 62, 63] [] rfl rfl (by decide) (by decide) hk1 hFc va_P0 va_D0
    generalize H1 = H at hP hS ⊢
    have hP : va_P (dC, dI) vwCl ([]) H := hP
    have hD : va_D A ([]) := hD
    rcases hw with ⟨c1130_, rfl⟩ | ⟨c1131_, c1132_, rfl⟩ | ⟨c1133_, c1134_, rfl⟩ | ⟨c1135_, c1136_, c1137_, rfl⟩ | ⟨c1138_, c1139_, c1140_, rfl⟩
    · skip
      exfalso
      have z0_ := tz_nlt_r c1116_ (show (0 : Int32).toInt = 0 by decide)
      have z1_ := tz_le_l c1117_ (show (1 : Int32).toInt = 1 by decide)
      have z2_ := tz_lt_r c1130_ (show (0 : Int32).toInt = 0 by decide)
      omega
    · skip
      refine lv_icmp_eq (tgt := 983) hx hb dL_law_627 (by decide) (fun _ => ?_) (fun c9_ => absurd (by decide) c9_)
      refine lv_iinc (v := 6) (lv' := [(3, .int 6), (2, .ref (b 0)), (1, .ref (a 0)), (0, .ref sc)]) hx hb dL_law_983 hl (k := 0) rfl (by decide) (by decide) rfl (fun ls hl => ?_)
      refine lv_goto (tgt := 18) hx hb dL_law_986 (by decide) ?_
      refine lv_iload_n hx hb dL_law_18 rfl (lv_at hl 0 rfl) ?_
      refine lv_aload_n hx hb dL_law_19 rfl (lv_at hl 3 rfl) ?_
      refine va_slen hx hb hX hbl hbA hS dL_law_20 ?_
      refine tk_i 6 (by decide) ?_
      refine lv_bipush (v := 6) hx hb dL_law_21 (by decide) ?_
      refine lv_isub hx hb dL_law_23 ?_
      refine tk_i 0 (by decide) ?_
      refine lv_icmp_gt (tgt := 989) hx hb dL_law_24 (by decide) (fun _ => ?_) (fun c9_ => absurd (by decide) c9_)
      refine lv_iconst (v := 1) hx hb dL_law_989 (by decide) ?_
      refine va_forget (fun q hq => by have h := hS.2.2 q hq; rw [hAe] at h; exact h) ?_
      refine W.widen (k := 600000) (n := 7302249) (Nat.le_of_ble_eq_true rfl) (Nat.le_of_ble_eq_true rfl) ?_
      exact lw_ret hx hb hr hlocks dL_law_990
    · skip
      exfalso
      have z0_ := tz_nlt_r c1116_ (show (0 : Int32).toInt = 0 by decide)
      have z1_ := tz_le_l c1117_ (show (1 : Int32).toInt = 1 by decide)
      have z2_ := tz_eq_r c1133_ (show (0 : Int32).toInt = 0 by decide)
      omega
    · skip
      exfalso
      have z0_ := tz_nlt_r c1116_ (show (0 : Int32).toInt = 0 by decide)
      have z1_ := tz_le_l c1117_ (show (1 : Int32).toInt = 1 by decide)
      have z2_ := tz_eq_r c1135_ (show (0 : Int32).toInt = 0 by decide)
      omega
    · skip
      exfalso
      have z0_ := tz_nlt_r c1116_ (show (0 : Int32).toInt = 0 by decide)
      have z1_ := tz_le_l c1117_ (show (1 : Int32).toInt = 1 by decide)
      have z2_ := tz_eq_r c1138_ (show (0 : Int32).toInt = 0 by decide)
      omega
  · skip
    subst c1118_
    refine lv_aload_n hx hb dL_law_613 rfl (lv_at hl 1 rfl) ?_
    refine lv_aload_n hx hb dL_law_614 rfl (lv_at hl 3 rfl) ?_
    refine lv_iload_n hx hb dL_law_615 rfl (lv_at hl 0 rfl) ?_
    refine lv_iconst (v := 1) hx hb dL_law_616 (by decide) ?_
    refine lv_iadd hx hb dL_law_617 ?_
    refine tk_i 1 (by decide) ?_
    refine va_sld hx hb hX hbl hbA hS (show ¬ ((1 : Int32) < 0 ∨ 6 ≤ Int32.toNatClampNeg 1) by decide) dL_law_618 ?_
    refine tk_i 0 ex1 ?_
    refine lv_aload_n hx hb dL_law_619 rfl (lv_at hl 3 rfl) ?_
    refine lv_iload_n hx hb dL_law_620 rfl (lv_at hl 0 rfl) ?_
    refine lv_iconst (v := 2) hx hb dL_law_621 (by decide) ?_
    refine lv_iadd hx hb dL_law_622 ?_
    refine tk_i 2 (by decide) ?_
    refine va_sld hx hb hX hbl hbA hS (show ¬ ((2 : Int32) < 0 ∨ 6 ≤ Int32.toNatClampNeg 2) by decide) dL_law_623 ?_
    refine tk_i x2 ex2 ?_
    have hPc : va_P (dC, dI) vwCl (mw b cy) _ := hP.sub [56, 57, 58, 59, 60, 61, 62, 63] rfl
    have hDc := hD.sub (ws' := mw b cy) [56, 57, 58, 59, 60, 61, 62, 63] (by decide) rfl
    have hFc := va_free (wc := mw b cy) hD hS hA [56, 57, 58, 59, 60, 61, 62, 63] rfl
    refine va_calli (va_runV (As := [.int 0, .int x2]) (rest := [.int (-1)]) ⟨hx, hb, hml, hown, hts⟩ (c_X12_lookUp l dC dI cy b _ 0 x2) (cwV 2 hts g_L_law_X12_lookUp_81 rfl rfl rfl (by decide +kernel) ⟨Nat.le_of_ble_eq_true rfl, Nat.le_of_ble_eq_true rfl⟩) (pv_ps hC hPc hDc (ci := 12) (q0 := 0) rfl rfl) rfl rfl hl.1 rfl (lv_room (Nat.le_of_ble_eq_true rfl)) dL_law_624 ⟨Nat.le_of_ble_eq_true rfl, Nat.le_of_ble_eq_true rfl⟩) hS (fun q _ h => hFc q h) hFc (fun r_ u t_ H1 locs ht hvm hw hB hz1 hk1 hS => ?_)
    obtain ⟨hP, hD⟩ := va_join (wr := []) (w1 := []) hP hD [56, 57, 58, 59, 60, 61, 62, 63] [] rfl rfl (by decide) (by decide) hk1 hFc va_P0 va_D0
    generalize H1 = H at hP hS ⊢
    have hP : va_P (dC, dI) vwCl ([]) H := hP
    have hD : va_D A ([]) := hD
    rcases hw with ⟨c1141_, rfl⟩ | ⟨-, c1143_, rfl⟩ | ⟨-, c1145_, rfl⟩ | ⟨-, c1147_, c1148_, rfl⟩ | ⟨-, c1150_, c1151_, rfl⟩
    · skip
      exact absurd c1141_ (by decide)
    · skip
      exact absurd c1143_ (by decide)
    · skip
      refine lv_icmp_eq (tgt := 983) hx hb dL_law_627 (by decide) (fun _ => ?_) (fun c9_ => absurd (by decide) c9_)
      refine lv_iinc (v := 6) (lv' := [(3, .int 6), (2, .ref (b 0)), (1, .ref (a 0)), (0, .ref sc)]) hx hb dL_law_983 hl (k := 0) rfl (by decide) (by decide) rfl (fun ls hl => ?_)
      refine lv_goto (tgt := 18) hx hb dL_law_986 (by decide) ?_
      refine lv_iload_n hx hb dL_law_18 rfl (lv_at hl 0 rfl) ?_
      refine lv_aload_n hx hb dL_law_19 rfl (lv_at hl 3 rfl) ?_
      refine va_slen hx hb hX hbl hbA hS dL_law_20 ?_
      refine tk_i 6 (by decide) ?_
      refine lv_bipush (v := 6) hx hb dL_law_21 (by decide) ?_
      refine lv_isub hx hb dL_law_23 ?_
      refine tk_i 0 (by decide) ?_
      refine lv_icmp_gt (tgt := 989) hx hb dL_law_24 (by decide) (fun _ => ?_) (fun c9_ => absurd (by decide) c9_)
      refine lv_iconst (v := 1) hx hb dL_law_989 (by decide) ?_
      refine va_forget (fun q hq => by have h := hS.2.2 q hq; rw [hAe] at h; exact h) ?_
      refine W.widen (k := 600000) (n := 7302249) (Nat.le_of_ble_eq_true rfl) (Nat.le_of_ble_eq_true rfl) ?_
      exact lw_ret hx hb hr hlocks dL_law_990
    · skip
      refine lv_icmp_eq (tgt := 983) hx hb dL_law_627 (by decide) (fun _ => ?_) (fun c9_ => absurd (by decide) c9_)
      refine lv_iinc (v := 6) (lv' := [(3, .int 6), (2, .ref (b 0)), (1, .ref (a 0)), (0, .ref sc)]) hx hb dL_law_983 hl (k := 0) rfl (by decide) (by decide) rfl (fun ls hl => ?_)
      refine lv_goto (tgt := 18) hx hb dL_law_986 (by decide) ?_
      refine lv_iload_n hx hb dL_law_18 rfl (lv_at hl 0 rfl) ?_
      refine lv_aload_n hx hb dL_law_19 rfl (lv_at hl 3 rfl) ?_
      refine va_slen hx hb hX hbl hbA hS dL_law_20 ?_
      refine tk_i 6 (by decide) ?_
      refine lv_bipush (v := 6) hx hb dL_law_21 (by decide) ?_
      refine lv_isub hx hb dL_law_23 ?_
      refine tk_i 0 (by decide) ?_
      refine lv_icmp_gt (tgt := 989) hx hb dL_law_24 (by decide) (fun _ => ?_) (fun c9_ => absurd (by decide) c9_)
      refine lv_iconst (v := 1) hx hb dL_law_989 (by decide) ?_
      refine va_forget (fun q hq => by have h := hS.2.2 q hq; rw [hAe] at h; exact h) ?_
      refine W.widen (k := 600000) (n := 7302249) (Nat.le_of_ble_eq_true rfl) (Nat.le_of_ble_eq_true rfl) ?_
      exact lw_ret hx hb hr hlocks dL_law_990
    · skip
      refine lv_icmp_eq (tgt := 983) hx hb dL_law_627 (by decide) (fun _ => ?_) (fun c9_ => absurd (by decide) c9_)
      refine lv_iinc (v := 6) (lv' := [(3, .int 6), (2, .ref (b 0)), (1, .ref (a 0)), (0, .ref sc)]) hx hb dL_law_983 hl (k := 0) rfl (by decide) (by decide) rfl (fun ls hl => ?_)
      refine lv_goto (tgt := 18) hx hb dL_law_986 (by decide) ?_
      refine lv_iload_n hx hb dL_law_18 rfl (lv_at hl 0 rfl) ?_
      refine lv_aload_n hx hb dL_law_19 rfl (lv_at hl 3 rfl) ?_
      refine va_slen hx hb hX hbl hbA hS dL_law_20 ?_
      refine tk_i 6 (by decide) ?_
      refine lv_bipush (v := 6) hx hb dL_law_21 (by decide) ?_
      refine lv_isub hx hb dL_law_23 ?_
      refine tk_i 0 (by decide) ?_
      refine lv_icmp_gt (tgt := 989) hx hb dL_law_24 (by decide) (fun _ => ?_) (fun c9_ => absurd (by decide) c9_)
      refine lv_iconst (v := 1) hx hb dL_law_989 (by decide) ?_
      refine va_forget (fun q hq => by have h := hS.2.2 q hq; rw [hAe] at h; exact h) ?_
      refine W.widen (k := 600000) (n := 7302249) (Nat.le_of_ble_eq_true rfl) (Nat.le_of_ble_eq_true rfl) ?_
      exact lw_ret hx hb hr hlocks dL_law_990
set_option maxHeartbeats 40000000 in
set_option maxRecDepth 100000 in
theorem lawc_16 {p : Program} {e : Env} {s : State} {m : MethodId} {below : List Frame} {meth : Method} {c : Code} (l : Launch) {sc : Nat} {xs : Nat → Int32} {A : Nat → Prop} {dC : Nat → ClassId} {dI : Nat → Nat → Nat} {cy : Nat → ClassId} {a b : Nat → Nat} {g : Nat → Nat → Option Nat} (hAe : A = fun q => s.heap.size ≤ q) (C0 : lw_At p s m meth c sc 6 xs) (hC : cK dC dI cy s) {H : Heap} {locs : List Loc} {ls : Array Slot} (hP : va_P (dC, dI) vwCl (fw a cy g ++ mw b cy) H) (hD : va_D A (fw a cy g ++ mw b cy)) (hS : va_S A s.heap H locs) (hl : lv_has ls 4 [(3, .int 0), (2, .ref (b 0)), (1, .ref (a 0)), (0, .ref sc)]) : W p l e room_1 s m #[Value.ref sc] below meth c H locs 1000 100000 (lw_Z below #[Value.ref sc] s) (F0 m 632 ls []) := by
  obtain ⟨hx, hb, hr, hml, hown, hts0, hX, hbl, hlocks, -⟩ := C0
  have hown : s.vm.findClass RL = some m.cls := hown
  have hts : ∀ w ∈ v_L_law, w.before #[Value.ref sc] s = true := fun w h => hts0 w (v_L_in w h)
  have hK := hC.1
  have hA : ∀ q : Nat, s.heap.size ≤ q → A q := fun q h => by rw [hAe]; exact h
  have hbA : ¬ A sc := by
    rw [hAe]
    exact Nat.not_le.mpr hbl
  obtain ⟨x0, ex0⟩ : ∃ z : Int32, xs (Int32.toNatClampNeg 0) = z := ⟨_, rfl⟩
  obtain ⟨x1, ex1⟩ : ∃ z : Int32, xs (Int32.toNatClampNeg 1) = z := ⟨_, rfl⟩
  obtain ⟨x2, ex2⟩ : ∃ z : Int32, xs (Int32.toNatClampNeg 2) = z := ⟨_, rfl⟩
  obtain ⟨x3, ex3⟩ : ∃ z : Int32, xs (Int32.toNatClampNeg 3) = z := ⟨_, rfl⟩
  obtain ⟨x4, ex4⟩ : ∃ z : Int32, xs (Int32.toNatClampNeg 4) = z := ⟨_, rfl⟩
  obtain ⟨x5, ex5⟩ : ∃ z : Int32, xs (Int32.toNatClampNeg 5) = z := ⟨_, rfl⟩
  refine lv_aload_n hx hb dL_law_632 rfl (lv_at hl 2 rfl) ?_
  refine lv_aload_n hx hb dL_law_633 rfl (lv_at hl 3 rfl) ?_
  refine lv_iload_n hx hb dL_law_634 rfl (lv_at hl 0 rfl) ?_
  refine lv_iconst (v := 1) hx hb dL_law_635 (by decide) ?_
  refine lv_iadd hx hb dL_law_636 ?_
  refine tk_i 1 (by decide) ?_
  refine va_sld hx hb hX hbl hbA hS (show ¬ ((1 : Int32) < 0 ∨ 6 ≤ Int32.toNatClampNeg 1) by decide) dL_law_637 ?_
  refine tk_i x1 ex1 ?_
  refine lv_aload_n hx hb dL_law_638 rfl (lv_at hl 3 rfl) ?_
  refine lv_iload_n hx hb dL_law_639 rfl (lv_at hl 0 rfl) ?_
  refine lv_iconst (v := 2) hx hb dL_law_640 (by decide) ?_
  refine lv_iadd hx hb dL_law_641 ?_
  refine tk_i 2 (by decide) ?_
  refine va_sld hx hb hX hbl hbA hS (show ¬ ((2 : Int32) < 0 ∨ 6 ≤ Int32.toNatClampNeg 2) by decide) dL_law_642 ?_
  refine tk_i x2 ex2 ?_
  have hPc : va_P (dC, dI) vwCl (fw a cy g) _ := hP.sub [0, 1, 2, 3, 4, 5, 6, 7, 8, 9, 10, 11, 12, 13, 14, 15, 16, 17, 18, 19, 20, 21, 22, 23, 24, 25, 26, 27, 28, 29, 30, 31, 32, 33, 34, 35, 36, 37, 38, 39, 40, 41, 42, 43, 44, 45, 46, 47, 48, 49, 50, 51, 52, 53, 54, 55] rfl
  refine tk_pi (va_runV (As := [.int x1, .int x2]) (rest := []) ⟨hx, hb, hml, hown, hts⟩ (c_X11_register l dC dI cy a g x1 x2) (cwV 2 hts g_L_law_X11_register_82 rfl rfl rfl (by decide +kernel) ⟨Nat.le_of_ble_eq_true rfl, Nat.le_of_ble_eq_true rfl⟩) (pv_pp hC hPc (ci := 11) (q0 := 0) rfl rfl) rfl rfl hl.1 rfl (lv_room (Nat.le_of_ble_eq_true rfl)) dL_law_643 ⟨Nat.le_of_ble_eq_true rfl, Nat.le_of_ble_eq_true rfl⟩) hP hS (fun r_ H locs hw hP hS => ?_)
  rcases hw with ⟨c1152_, rfl⟩ | ⟨c1153_, c1154_, rfl⟩ | ⟨c1155_, c1156_, c1157_, rfl⟩ | ⟨c1158_, c1159_, c1160_, c1161_, rfl⟩ | ⟨c1162_, c1163_, c1164_, c1165_, rfl⟩
  · skip
    refine lv_aload_n hx hb dL_law_646 rfl (lv_at hl 1 rfl) ?_
    refine lv_aload_n hx hb dL_law_647 rfl (lv_at hl 3 rfl) ?_
    refine lv_iload_n hx hb dL_law_648 rfl (lv_at hl 0 rfl) ?_
    refine lv_iconst (v := 1) hx hb dL_law_649 (by decide) ?_
    refine lv_iadd hx hb dL_law_650 ?_
    refine tk_i 1 (by decide) ?_
    refine va_sld hx hb hX hbl hbA hS (show ¬ ((1 : Int32) < 0 ∨ 6 ≤ Int32.toNatClampNeg 1) by decide) dL_law_651 ?_
    refine tk_i x1 ex1 ?_
    refine lv_aload_n hx hb dL_law_652 rfl (lv_at hl 3 rfl) ?_
    refine lv_iload_n hx hb dL_law_653 rfl (lv_at hl 0 rfl) ?_
    refine lv_iconst (v := 2) hx hb dL_law_654 (by decide) ?_
    refine lv_iadd hx hb dL_law_655 ?_
    refine tk_i 2 (by decide) ?_
    refine va_sld hx hb hX hbl hbA hS (show ¬ ((2 : Int32) < 0 ∨ 6 ≤ Int32.toNatClampNeg 2) by decide) dL_law_656 ?_
    refine tk_i x2 ex2 ?_
    have hPc : va_P (dC, dI) vwCl (mw b cy) _ := hP.sub [56, 57, 58, 59, 60, 61, 62, 63] rfl
    have hDc := hD.sub (ws' := mw b cy) [56, 57, 58, 59, 60, 61, 62, 63] (by decide) rfl
    have hFc := va_free (wc := mw b cy) hD hS hA [56, 57, 58, 59, 60, 61, 62, 63] rfl
    refine va_calli (va_runV (As := [.int x1, .int x2]) (rest := [.int (-1)]) ⟨hx, hb, hml, hown, hts⟩ (c_X12_register l dC dI cy b _ x1 x2) (cwV 2 hts g_L_law_X12_register_85 rfl rfl rfl (by decide +kernel) ⟨Nat.le_of_ble_eq_true rfl, Nat.le_of_ble_eq_true rfl⟩) (pv_ps hC hPc hDc (ci := 12) (q0 := 0) rfl rfl) rfl rfl hl.1 rfl (lv_room (Nat.le_of_ble_eq_true rfl)) dL_law_657 ⟨Nat.le_of_ble_eq_true rfl, Nat.le_of_ble_eq_true rfl⟩) hS (fun q _ h => hFc q h) hFc (fun r_ u t_ H1 locs ht hvm hw hB hz1 hk1 hS => ?_)
    obtain ⟨hP, hD⟩ := va_join (wr := []) (w1 := []) hP hD [56, 57, 58, 59, 60, 61, 62, 63] [] rfl rfl (by decide) (by decide) hk1 hFc va_P0 va_D0
    generalize H1 = H at hP hS ⊢
    have hP : va_P (dC, dI) vwCl ([]) H := hP
    have hD : va_D A ([]) := hD
    rcases hw with ⟨c1166_, rfl⟩ | ⟨c1167_, c1168_, rfl⟩ | ⟨c1169_, c1170_, c1171_, rfl⟩ | ⟨c1172_, c1173_, c1174_, c1175_, rfl⟩ | ⟨c1176_, c1177_, c1178_, c1179_, rfl⟩
    · skip
      refine lv_icmp_eq (tgt := 983) hx hb dL_law_660 (by decide) (fun _ => ?_) (fun c9_ => absurd (by decide) c9_)
      refine lv_iinc (v := 6) (lv' := [(3, .int 6), (2, .ref (b 0)), (1, .ref (a 0)), (0, .ref sc)]) hx hb dL_law_983 hl (k := 0) rfl (by decide) (by decide) rfl (fun ls hl => ?_)
      refine lv_goto (tgt := 18) hx hb dL_law_986 (by decide) ?_
      refine lv_iload_n hx hb dL_law_18 rfl (lv_at hl 0 rfl) ?_
      refine lv_aload_n hx hb dL_law_19 rfl (lv_at hl 3 rfl) ?_
      refine va_slen hx hb hX hbl hbA hS dL_law_20 ?_
      refine tk_i 6 (by decide) ?_
      refine lv_bipush (v := 6) hx hb dL_law_21 (by decide) ?_
      refine lv_isub hx hb dL_law_23 ?_
      refine tk_i 0 (by decide) ?_
      refine lv_icmp_gt (tgt := 989) hx hb dL_law_24 (by decide) (fun _ => ?_) (fun c9_ => absurd (by decide) c9_)
      refine lv_iconst (v := 1) hx hb dL_law_989 (by decide) ?_
      refine va_forget (fun q hq => by have h := hS.2.2 q hq; rw [hAe] at h; exact h) ?_
      refine W.widen (k := 600000) (n := 7302249) (Nat.le_of_ble_eq_true rfl) (Nat.le_of_ble_eq_true rfl) ?_
      exact lw_ret hx hb hr hlocks dL_law_990
    · skip
      exfalso
      have z0_ := tz_lt_r c1152_ (show (0 : Int32).toInt = 0 by decide)
      have z1_ := tz_nlt_r c1167_ (show (0 : Int32).toInt = 0 by decide)
      omega
    · skip
      exfalso
      have z0_ := tz_lt_r c1152_ (show (0 : Int32).toInt = 0 by decide)
      have z1_ := tz_nlt_r c1169_ (show (0 : Int32).toInt = 0 by decide)
      omega
    · skip
      exfalso
      have z0_ := tz_lt_r c1152_ (show (0 : Int32).toInt = 0 by decide)
      have z1_ := tz_nlt_r c1172_ (show (0 : Int32).toInt = 0 by decide)
      omega
    · skip
      exfalso
      have z0_ := tz_lt_r c1152_ (show (0 : Int32).toInt = 0 by decide)
      have z1_ := tz_nlt_r c1176_ (show (0 : Int32).toInt = 0 by decide)
      omega
  · skip
    refine lv_aload_n hx hb dL_law_646 rfl (lv_at hl 1 rfl) ?_
    refine lv_aload_n hx hb dL_law_647 rfl (lv_at hl 3 rfl) ?_
    refine lv_iload_n hx hb dL_law_648 rfl (lv_at hl 0 rfl) ?_
    refine lv_iconst (v := 1) hx hb dL_law_649 (by decide) ?_
    refine lv_iadd hx hb dL_law_650 ?_
    refine tk_i 1 (by decide) ?_
    refine va_sld hx hb hX hbl hbA hS (show ¬ ((1 : Int32) < 0 ∨ 6 ≤ Int32.toNatClampNeg 1) by decide) dL_law_651 ?_
    refine tk_i x1 ex1 ?_
    refine lv_aload_n hx hb dL_law_652 rfl (lv_at hl 3 rfl) ?_
    refine lv_iload_n hx hb dL_law_653 rfl (lv_at hl 0 rfl) ?_
    refine lv_iconst (v := 2) hx hb dL_law_654 (by decide) ?_
    refine lv_iadd hx hb dL_law_655 ?_
    refine tk_i 2 (by decide) ?_
    refine va_sld hx hb hX hbl hbA hS (show ¬ ((2 : Int32) < 0 ∨ 6 ≤ Int32.toNatClampNeg 2) by decide) dL_law_656 ?_
    refine tk_i x2 ex2 ?_
    have hPc : va_P (dC, dI) vwCl (mw b cy) _ := hP.sub [56, 57, 58, 59, 60, 61, 62, 63] rfl
    have hDc := hD.sub (ws' := mw b cy) [56, 57, 58, 59, 60, 61, 62, 63] (by decide) rfl
    have hFc := va_free (wc := mw b cy) hD hS hA [56, 57, 58, 59, 60, 61, 62, 63] rfl
    refine va_calli (va_runV (As := [.int x1, .int x2]) (rest := [.int (-1)]) ⟨hx, hb, hml, hown, hts⟩ (c_X12_register l dC dI cy b _ x1 x2) (cwV 2 hts g_L_law_X12_register_85 rfl rfl rfl (by decide +kernel) ⟨Nat.le_of_ble_eq_true rfl, Nat.le_of_ble_eq_true rfl⟩) (pv_ps hC hPc hDc (ci := 12) (q0 := 0) rfl rfl) rfl rfl hl.1 rfl (lv_room (Nat.le_of_ble_eq_true rfl)) dL_law_657 ⟨Nat.le_of_ble_eq_true rfl, Nat.le_of_ble_eq_true rfl⟩) hS (fun q _ h => hFc q h) hFc (fun r_ u t_ H1 locs ht hvm hw hB hz1 hk1 hS => ?_)
    obtain ⟨hP, hD⟩ := va_join (wr := []) (w1 := []) hP hD [56, 57, 58, 59, 60, 61, 62, 63] [] rfl rfl (by decide) (by decide) hk1 hFc va_P0 va_D0
    generalize H1 = H at hP hS ⊢
    have hP : va_P (dC, dI) vwCl ([]) H := hP
    have hD : va_D A ([]) := hD
    rcases hw with ⟨c1180_, rfl⟩ | ⟨c1181_, c1182_, rfl⟩ | ⟨c1183_, c1184_, c1185_, rfl⟩ | ⟨c1186_, c1187_, c1188_, c1189_, rfl⟩ | ⟨c1190_, c1191_, c1192_, c1193_, rfl⟩
    · skip
      exfalso
      have z0_ := tz_nlt_r c1153_ (show (0 : Int32).toInt = 0 by decide)
      have z1_ := tz_lt_l c1154_ (show (4 : Int32).toInt = 4 by decide)
      have z2_ := tz_lt_r c1180_ (show (0 : Int32).toInt = 0 by decide)
      omega
    · skip
      refine lv_icmp_eq (tgt := 983) hx hb dL_law_660 (by decide) (fun _ => ?_) (fun c9_ => absurd (by decide) c9_)
      refine lv_iinc (v := 6) (lv' := [(3, .int 6), (2, .ref (b 0)), (1, .ref (a 0)), (0, .ref sc)]) hx hb dL_law_983 hl (k := 0) rfl (by decide) (by decide) rfl (fun ls hl => ?_)
      refine lv_goto (tgt := 18) hx hb dL_law_986 (by decide) ?_
      refine lv_iload_n hx hb dL_law_18 rfl (lv_at hl 0 rfl) ?_
      refine lv_aload_n hx hb dL_law_19 rfl (lv_at hl 3 rfl) ?_
      refine va_slen hx hb hX hbl hbA hS dL_law_20 ?_
      refine tk_i 6 (by decide) ?_
      refine lv_bipush (v := 6) hx hb dL_law_21 (by decide) ?_
      refine lv_isub hx hb dL_law_23 ?_
      refine tk_i 0 (by decide) ?_
      refine lv_icmp_gt (tgt := 989) hx hb dL_law_24 (by decide) (fun _ => ?_) (fun c9_ => absurd (by decide) c9_)
      refine lv_iconst (v := 1) hx hb dL_law_989 (by decide) ?_
      refine va_forget (fun q hq => by have h := hS.2.2 q hq; rw [hAe] at h; exact h) ?_
      refine W.widen (k := 600000) (n := 7302249) (Nat.le_of_ble_eq_true rfl) (Nat.le_of_ble_eq_true rfl) ?_
      exact lw_ret hx hb hr hlocks dL_law_990
    · skip
      exfalso
      have z0_ := tz_nlt_r c1153_ (show (0 : Int32).toInt = 0 by decide)
      have z1_ := tz_lt_l c1154_ (show (4 : Int32).toInt = 4 by decide)
      have z2_ := tz_nlt_l c1184_ (show (4 : Int32).toInt = 4 by decide)
      omega
    · skip
      exfalso
      have z0_ := tz_nlt_r c1153_ (show (0 : Int32).toInt = 0 by decide)
      have z1_ := tz_lt_l c1154_ (show (4 : Int32).toInt = 4 by decide)
      have z2_ := tz_nlt_l c1187_ (show (4 : Int32).toInt = 4 by decide)
      omega
    · skip
      exfalso
      have z0_ := tz_nlt_r c1153_ (show (0 : Int32).toInt = 0 by decide)
      have z1_ := tz_lt_l c1154_ (show (4 : Int32).toInt = 4 by decide)
      have z2_ := tz_nlt_l c1191_ (show (4 : Int32).toInt = 4 by decide)
      omega
  · skip
    refine lv_aload_n hx hb dL_law_646 rfl (lv_at hl 1 rfl) ?_
    refine lv_aload_n hx hb dL_law_647 rfl (lv_at hl 3 rfl) ?_
    refine lv_iload_n hx hb dL_law_648 rfl (lv_at hl 0 rfl) ?_
    refine lv_iconst (v := 1) hx hb dL_law_649 (by decide) ?_
    refine lv_iadd hx hb dL_law_650 ?_
    refine tk_i 1 (by decide) ?_
    refine va_sld hx hb hX hbl hbA hS (show ¬ ((1 : Int32) < 0 ∨ 6 ≤ Int32.toNatClampNeg 1) by decide) dL_law_651 ?_
    refine tk_i x1 ex1 ?_
    refine lv_aload_n hx hb dL_law_652 rfl (lv_at hl 3 rfl) ?_
    refine lv_iload_n hx hb dL_law_653 rfl (lv_at hl 0 rfl) ?_
    refine lv_iconst (v := 2) hx hb dL_law_654 (by decide) ?_
    refine lv_iadd hx hb dL_law_655 ?_
    refine tk_i 2 (by decide) ?_
    refine va_sld hx hb hX hbl hbA hS (show ¬ ((2 : Int32) < 0 ∨ 6 ≤ Int32.toNatClampNeg 2) by decide) dL_law_656 ?_
    refine tk_i x2 ex2 ?_
    have hPc : va_P (dC, dI) vwCl (mw b cy) _ := hP.sub [56, 57, 58, 59, 60, 61, 62, 63] rfl
    have hDc := hD.sub (ws' := mw b cy) [56, 57, 58, 59, 60, 61, 62, 63] (by decide) rfl
    have hFc := va_free (wc := mw b cy) hD hS hA [56, 57, 58, 59, 60, 61, 62, 63] rfl
    refine va_calli (va_runV (As := [.int x1, .int x2]) (rest := [.int (-1)]) ⟨hx, hb, hml, hown, hts⟩ (c_X12_register l dC dI cy b _ x1 x2) (cwV 2 hts g_L_law_X12_register_85 rfl rfl rfl (by decide +kernel) ⟨Nat.le_of_ble_eq_true rfl, Nat.le_of_ble_eq_true rfl⟩) (pv_ps hC hPc hDc (ci := 12) (q0 := 0) rfl rfl) rfl rfl hl.1 rfl (lv_room (Nat.le_of_ble_eq_true rfl)) dL_law_657 ⟨Nat.le_of_ble_eq_true rfl, Nat.le_of_ble_eq_true rfl⟩) hS (fun q _ h => hFc q h) hFc (fun r_ u t_ H1 locs ht hvm hw hB hz1 hk1 hS => ?_)
    obtain ⟨hP, hD⟩ := va_join (wr := []) (w1 := []) hP hD [56, 57, 58, 59, 60, 61, 62, 63] [] rfl rfl (by decide) (by decide) hk1 hFc va_P0 va_D0
    generalize H1 = H at hP hS ⊢
    have hP : va_P (dC, dI) vwCl ([]) H := hP
    have hD : va_D A ([]) := hD
    rcases hw with ⟨c1194_, rfl⟩ | ⟨c1195_, c1196_, rfl⟩ | ⟨c1197_, c1198_, c1199_, rfl⟩ | ⟨c1200_, c1201_, c1202_, c1203_, rfl⟩ | ⟨c1204_, c1205_, c1206_, c1207_, rfl⟩
    · skip
      exfalso
      have z0_ := tz_nlt_r c1155_ (show (0 : Int32).toInt = 0 by decide)
      have z1_ := tz_nlt_l c1156_ (show (4 : Int32).toInt = 4 by decide)
      have z2_ := tz_lt_r c1194_ (show (0 : Int32).toInt = 0 by decide)
      omega
    · skip
      exfalso
      have z0_ := tz_nlt_r c1155_ (show (0 : Int32).toInt = 0 by decide)
      have z1_ := tz_nlt_l c1156_ (show (4 : Int32).toInt = 4 by decide)
      have z2_ := tz_lt_l c1196_ (show (4 : Int32).toInt = 4 by decide)
      omega
    · skip
      refine lv_icmp_eq (tgt := 983) hx hb dL_law_660 (by decide) (fun _ => ?_) (fun c9_ => absurd (by decide) c9_)
      refine lv_iinc (v := 6) (lv' := [(3, .int 6), (2, .ref (b 0)), (1, .ref (a 0)), (0, .ref sc)]) hx hb dL_law_983 hl (k := 0) rfl (by decide) (by decide) rfl (fun ls hl => ?_)
      refine lv_goto (tgt := 18) hx hb dL_law_986 (by decide) ?_
      refine lv_iload_n hx hb dL_law_18 rfl (lv_at hl 0 rfl) ?_
      refine lv_aload_n hx hb dL_law_19 rfl (lv_at hl 3 rfl) ?_
      refine va_slen hx hb hX hbl hbA hS dL_law_20 ?_
      refine tk_i 6 (by decide) ?_
      refine lv_bipush (v := 6) hx hb dL_law_21 (by decide) ?_
      refine lv_isub hx hb dL_law_23 ?_
      refine tk_i 0 (by decide) ?_
      refine lv_icmp_gt (tgt := 989) hx hb dL_law_24 (by decide) (fun _ => ?_) (fun c9_ => absurd (by decide) c9_)
      refine lv_iconst (v := 1) hx hb dL_law_989 (by decide) ?_
      refine va_forget (fun q hq => by have h := hS.2.2 q hq; rw [hAe] at h; exact h) ?_
      refine W.widen (k := 600000) (n := 7302249) (Nat.le_of_ble_eq_true rfl) (Nat.le_of_ble_eq_true rfl) ?_
      exact lw_ret hx hb hr hlocks dL_law_990
    · skip
      exfalso
      have z0_ := tz_lt_r c1157_ (show (0 : Int32).toInt = 0 by decide)
      have z1_ := tz_nlt_r c1202_ (show (0 : Int32).toInt = 0 by decide)
      omega
    · skip
      exfalso
      have z0_ := tz_lt_r c1157_ (show (0 : Int32).toInt = 0 by decide)
      have z1_ := tz_nlt_r c1206_ (show (0 : Int32).toInt = 0 by decide)
      omega
  · skip
    refine lv_aload_n hx hb dL_law_646 rfl (lv_at hl 1 rfl) ?_
    refine lv_aload_n hx hb dL_law_647 rfl (lv_at hl 3 rfl) ?_
    refine lv_iload_n hx hb dL_law_648 rfl (lv_at hl 0 rfl) ?_
    refine lv_iconst (v := 1) hx hb dL_law_649 (by decide) ?_
    refine lv_iadd hx hb dL_law_650 ?_
    refine tk_i 1 (by decide) ?_
    refine va_sld hx hb hX hbl hbA hS (show ¬ ((1 : Int32) < 0 ∨ 6 ≤ Int32.toNatClampNeg 1) by decide) dL_law_651 ?_
    refine tk_i x1 ex1 ?_
    refine lv_aload_n hx hb dL_law_652 rfl (lv_at hl 3 rfl) ?_
    refine lv_iload_n hx hb dL_law_653 rfl (lv_at hl 0 rfl) ?_
    refine lv_iconst (v := 2) hx hb dL_law_654 (by decide) ?_
    refine lv_iadd hx hb dL_law_655 ?_
    refine tk_i 2 (by decide) ?_
    refine va_sld hx hb hX hbl hbA hS (show ¬ ((2 : Int32) < 0 ∨ 6 ≤ Int32.toNatClampNeg 2) by decide) dL_law_656 ?_
    refine tk_i x2 ex2 ?_
    have hPc : va_P (dC, dI) vwCl (mw b cy) _ := hP.sub [56, 57, 58, 59, 60, 61, 62, 63] rfl
    have hDc := hD.sub (ws' := mw b cy) [56, 57, 58, 59, 60, 61, 62, 63] (by decide) rfl
    have hFc := va_free (wc := mw b cy) hD hS hA [56, 57, 58, 59, 60, 61, 62, 63] rfl
    refine va_calli (va_runV (As := [.int x1, .int x2]) (rest := [.int 0]) ⟨hx, hb, hml, hown, hts⟩ (c_X12_register l dC dI cy b _ x1 x2) (cwV 2 hts g_L_law_X12_register_85 rfl rfl rfl (by decide +kernel) ⟨Nat.le_of_ble_eq_true rfl, Nat.le_of_ble_eq_true rfl⟩) (pv_ps hC hPc hDc (ci := 12) (q0 := 0) rfl rfl) rfl rfl hl.1 rfl (lv_room (Nat.le_of_ble_eq_true rfl)) dL_law_657 ⟨Nat.le_of_ble_eq_true rfl, Nat.le_of_ble_eq_true rfl⟩) hS (fun q _ h => hFc q h) hFc (fun r_ u t_ H1 locs ht hvm hw hB hz1 hk1 hS => ?_)
    obtain ⟨hP, hD⟩ := va_join (wr := []) (w1 := []) hP hD [56, 57, 58, 59, 60, 61, 62, 63] [] rfl rfl (by decide) (by decide) hk1 hFc va_P0 va_D0
    generalize H1 = H at hP hS ⊢
    have hP : va_P (dC, dI) vwCl ([]) H := hP
    have hD : va_D A ([]) := hD
    rcases hw with ⟨c1208_, rfl⟩ | ⟨c1209_, c1210_, rfl⟩ | ⟨c1211_, c1212_, c1213_, rfl⟩ | ⟨c1214_, c1215_, c1216_, c1217_, rfl⟩ | ⟨c1218_, c1219_, c1220_, c1221_, rfl⟩
    · skip
      exfalso
      have z0_ := tz_nlt_r c1158_ (show (0 : Int32).toInt = 0 by decide)
      have z1_ := tz_nlt_l c1159_ (show (4 : Int32).toInt = 4 by decide)
      have z2_ := tz_lt_r c1208_ (show (0 : Int32).toInt = 0 by decide)
      omega
    · skip
      exfalso
      have z0_ := tz_nlt_r c1158_ (show (0 : Int32).toInt = 0 by decide)
      have z1_ := tz_nlt_l c1159_ (show (4 : Int32).toInt = 4 by decide)
      have z2_ := tz_lt_l c1210_ (show (4 : Int32).toInt = 4 by decide)
      omega
    · skip
      exfalso
      have z0_ := tz_nlt_r c1160_ (show (0 : Int32).toInt = 0 by decide)
      have z1_ := tz_lt_r c1161_ (show (8 : Int32).toInt = 8 by decide)
      have z2_ := tz_lt_r c1213_ (show (0 : Int32).toInt = 0 by decide)
      omega
    · skip
      exfalso
      have z0_ := tz_nlt_r c1160_ (show (0 : Int32).toInt = 0 by decide)
      have z1_ := tz_lt_r c1161_ (show (8 : Int32).toInt = 8 by decide)
      have z2_ := tz_lt_l c1217_ (show (7 : Int32).toInt = 7 by decide)
      omega
    · skip
      refine lv_icmp_eq (tgt := 983) hx hb dL_law_660 (by decide) (fun _ => ?_) (fun c9_ => absurd (by decide) c9_)
      refine lv_iinc (v := 6) (lv' := [(3, .int 6), (2, .ref (b 0)), (1, .ref (a 0)), (0, .ref sc)]) hx hb dL_law_983 hl (k := 0) rfl (by decide) (by decide) rfl (fun ls hl => ?_)
      refine lv_goto (tgt := 18) hx hb dL_law_986 (by decide) ?_
      refine lv_iload_n hx hb dL_law_18 rfl (lv_at hl 0 rfl) ?_
      refine lv_aload_n hx hb dL_law_19 rfl (lv_at hl 3 rfl) ?_
      refine va_slen hx hb hX hbl hbA hS dL_law_20 ?_
      refine tk_i 6 (by decide) ?_
      refine lv_bipush (v := 6) hx hb dL_law_21 (by decide) ?_
      refine lv_isub hx hb dL_law_23 ?_
      refine tk_i 0 (by decide) ?_
      refine lv_icmp_gt (tgt := 989) hx hb dL_law_24 (by decide) (fun _ => ?_) (fun c9_ => absurd (by decide) c9_)
      refine lv_iconst (v := 1) hx hb dL_law_989 (by decide) ?_
      refine va_forget (fun q hq => by have h := hS.2.2 q hq; rw [hAe] at h; exact h) ?_
      refine W.widen (k := 600000) (n := 7302249) (Nat.le_of_ble_eq_true rfl) (Nat.le_of_ble_eq_true rfl) ?_
      exact lw_ret hx hb hr hlocks dL_law_990
  · skip
    refine lv_aload_n hx hb dL_law_646 rfl (lv_at hl 1 rfl) ?_
    refine lv_aload_n hx hb dL_law_647 rfl (lv_at hl 3 rfl) ?_
    refine lv_iload_n hx hb dL_law_648 rfl (lv_at hl 0 rfl) ?_
    refine lv_iconst (v := 1) hx hb dL_law_649 (by decide) ?_
    refine lv_iadd hx hb dL_law_650 ?_
    refine tk_i 1 (by decide) ?_
    refine va_sld hx hb hX hbl hbA hS (show ¬ ((1 : Int32) < 0 ∨ 6 ≤ Int32.toNatClampNeg 1) by decide) dL_law_651 ?_
    refine tk_i x1 ex1 ?_
    refine lv_aload_n hx hb dL_law_652 rfl (lv_at hl 3 rfl) ?_
    refine lv_iload_n hx hb dL_law_653 rfl (lv_at hl 0 rfl) ?_
    refine lv_iconst (v := 2) hx hb dL_law_654 (by decide) ?_
    refine lv_iadd hx hb dL_law_655 ?_
    refine tk_i 2 (by decide) ?_
    refine va_sld hx hb hX hbl hbA hS (show ¬ ((2 : Int32) < 0 ∨ 6 ≤ Int32.toNatClampNeg 2) by decide) dL_law_656 ?_
    refine tk_i x2 ex2 ?_
    have hPc : va_P (dC, dI) vwCl (mw b cy) _ := hP.sub [56, 57, 58, 59, 60, 61, 62, 63] rfl
    have hDc := hD.sub (ws' := mw b cy) [56, 57, 58, 59, 60, 61, 62, 63] (by decide) rfl
    have hFc := va_free (wc := mw b cy) hD hS hA [56, 57, 58, 59, 60, 61, 62, 63] rfl
    refine va_calli (va_runV (As := [.int x1, .int x2]) (rest := [.int (-1)]) ⟨hx, hb, hml, hown, hts⟩ (c_X12_register l dC dI cy b _ x1 x2) (cwV 2 hts g_L_law_X12_register_85 rfl rfl rfl (by decide +kernel) ⟨Nat.le_of_ble_eq_true rfl, Nat.le_of_ble_eq_true rfl⟩) (pv_ps hC hPc hDc (ci := 12) (q0 := 0) rfl rfl) rfl rfl hl.1 rfl (lv_room (Nat.le_of_ble_eq_true rfl)) dL_law_657 ⟨Nat.le_of_ble_eq_true rfl, Nat.le_of_ble_eq_true rfl⟩) hS (fun q _ h => hFc q h) hFc (fun r_ u t_ H1 locs ht hvm hw hB hz1 hk1 hS => ?_)
    obtain ⟨hP, hD⟩ := va_join (wr := []) (w1 := []) hP hD [56, 57, 58, 59, 60, 61, 62, 63] [] rfl rfl (by decide) (by decide) hk1 hFc va_P0 va_D0
    generalize H1 = H at hP hS ⊢
    have hP : va_P (dC, dI) vwCl ([]) H := hP
    have hD : va_D A ([]) := hD
    rcases hw with ⟨c1222_, rfl⟩ | ⟨c1223_, c1224_, rfl⟩ | ⟨c1225_, c1226_, c1227_, rfl⟩ | ⟨c1228_, c1229_, c1230_, c1231_, rfl⟩ | ⟨c1232_, c1233_, c1234_, c1235_, rfl⟩
    · skip
      exfalso
      have z0_ := tz_nlt_r c1162_ (show (0 : Int32).toInt = 0 by decide)
      have z1_ := tz_nlt_l c1163_ (show (4 : Int32).toInt = 4 by decide)
      have z2_ := tz_lt_r c1222_ (show (0 : Int32).toInt = 0 by decide)
      omega
    · skip
      exfalso
      have z0_ := tz_nlt_r c1162_ (show (0 : Int32).toInt = 0 by decide)
      have z1_ := tz_nlt_l c1163_ (show (4 : Int32).toInt = 4 by decide)
      have z2_ := tz_lt_l c1224_ (show (4 : Int32).toInt = 4 by decide)
      omega
    · skip
      exfalso
      have z0_ := tz_nlt_r c1164_ (show (0 : Int32).toInt = 0 by decide)
      have z1_ := tz_nlt_r c1165_ (show (8 : Int32).toInt = 8 by decide)
      have z2_ := tz_lt_r c1227_ (show (0 : Int32).toInt = 0 by decide)
      omega
    · skip
      refine lv_icmp_eq (tgt := 983) hx hb dL_law_660 (by decide) (fun _ => ?_) (fun c9_ => absurd (by decide) c9_)
      refine lv_iinc (v := 6) (lv' := [(3, .int 6), (2, .ref (b 0)), (1, .ref (a 0)), (0, .ref sc)]) hx hb dL_law_983 hl (k := 0) rfl (by decide) (by decide) rfl (fun ls hl => ?_)
      refine lv_goto (tgt := 18) hx hb dL_law_986 (by decide) ?_
      refine lv_iload_n hx hb dL_law_18 rfl (lv_at hl 0 rfl) ?_
      refine lv_aload_n hx hb dL_law_19 rfl (lv_at hl 3 rfl) ?_
      refine va_slen hx hb hX hbl hbA hS dL_law_20 ?_
      refine tk_i 6 (by decide) ?_
      refine lv_bipush (v := 6) hx hb dL_law_21 (by decide) ?_
      refine lv_isub hx hb dL_law_23 ?_
      refine tk_i 0 (by decide) ?_
      refine lv_icmp_gt (tgt := 989) hx hb dL_law_24 (by decide) (fun _ => ?_) (fun c9_ => absurd (by decide) c9_)
      refine lv_iconst (v := 1) hx hb dL_law_989 (by decide) ?_
      refine va_forget (fun q hq => by have h := hS.2.2 q hq; rw [hAe] at h; exact h) ?_
      refine W.widen (k := 600000) (n := 7302249) (Nat.le_of_ble_eq_true rfl) (Nat.le_of_ble_eq_true rfl) ?_
      exact lw_ret hx hb hr hlocks dL_law_990
    · skip
      exfalso
      have z0_ := tz_nlt_r c1164_ (show (0 : Int32).toInt = 0 by decide)
      have z1_ := tz_nlt_r c1165_ (show (8 : Int32).toInt = 8 by decide)
      have z2_ := tz_nlt_l c1235_ (show (7 : Int32).toInt = 7 by decide)
      omega
set_option maxHeartbeats 40000000 in
set_option maxRecDepth 100000 in
theorem lawc_17 {p : Program} {e : Env} {s : State} {m : MethodId} {below : List Frame} {meth : Method} {c : Code} (l : Launch) {sc : Nat} {xs : Nat → Int32} {A : Nat → Prop} {dC : Nat → ClassId} {dI : Nat → Nat → Nat} {cy : Nat → ClassId} {a b : Nat → Nat} {g : Nat → Nat → Option Nat} (hAe : A = fun q => s.heap.size ≤ q) (C0 : lw_At p s m meth c sc 6 xs) (hC : cK dC dI cy s) {H : Heap} {locs : List Loc} {ls : Array Slot} (hP : va_P (dC, dI) vwCl (fw a cy g ++ mw b cy) H) (hD : va_D A (fw a cy g ++ mw b cy)) (hS : va_S A s.heap H locs) (hl : lv_has ls 4 [(3, .int 0), (2, .ref (b 0)), (1, .ref (a 0)), (0, .ref sc)]) : W p l e room_1 s m #[Value.ref sc] below meth c H locs 1000 100000 (lw_Z below #[Value.ref sc] s) (F0 m 665 ls []) := by
  obtain ⟨hx, hb, hr, hml, hown, hts0, hX, hbl, hlocks, -⟩ := C0
  have hown : s.vm.findClass RL = some m.cls := hown
  have hts : ∀ w ∈ v_L_law, w.before #[Value.ref sc] s = true := fun w h => hts0 w (v_L_in w h)
  have hK := hC.1
  have hA : ∀ q : Nat, s.heap.size ≤ q → A q := fun q h => by rw [hAe]; exact h
  have hbA : ¬ A sc := by
    rw [hAe]
    exact Nat.not_le.mpr hbl
  obtain ⟨x0, ex0⟩ : ∃ z : Int32, xs (Int32.toNatClampNeg 0) = z := ⟨_, rfl⟩
  obtain ⟨x1, ex1⟩ : ∃ z : Int32, xs (Int32.toNatClampNeg 1) = z := ⟨_, rfl⟩
  obtain ⟨x2, ex2⟩ : ∃ z : Int32, xs (Int32.toNatClampNeg 2) = z := ⟨_, rfl⟩
  obtain ⟨x3, ex3⟩ : ∃ z : Int32, xs (Int32.toNatClampNeg 3) = z := ⟨_, rfl⟩
  obtain ⟨x4, ex4⟩ : ∃ z : Int32, xs (Int32.toNatClampNeg 4) = z := ⟨_, rfl⟩
  obtain ⟨x5, ex5⟩ : ∃ z : Int32, xs (Int32.toNatClampNeg 5) = z := ⟨_, rfl⟩
  refine lv_aload_n hx hb dL_law_665 rfl (lv_at hl 2 rfl) ?_
  refine lv_aload_n hx hb dL_law_666 rfl (lv_at hl 3 rfl) ?_
  refine lv_iload_n hx hb dL_law_667 rfl (lv_at hl 0 rfl) ?_
  refine lv_iconst (v := 1) hx hb dL_law_668 (by decide) ?_
  refine lv_iadd hx hb dL_law_669 ?_
  refine tk_i 1 (by decide) ?_
  refine va_sld hx hb hX hbl hbA hS (show ¬ ((1 : Int32) < 0 ∨ 6 ≤ Int32.toNatClampNeg 1) by decide) dL_law_670 ?_
  refine tk_i x1 ex1 ?_
  have hPc : va_P (dC, dI) vwCl (fw a cy g) _ := hP.sub [0, 1, 2, 3, 4, 5, 6, 7, 8, 9, 10, 11, 12, 13, 14, 15, 16, 17, 18, 19, 20, 21, 22, 23, 24, 25, 26, 27, 28, 29, 30, 31, 32, 33, 34, 35, 36, 37, 38, 39, 40, 41, 42, 43, 44, 45, 46, 47, 48, 49, 50, 51, 52, 53, 54, 55] rfl
  refine tk_pl (va_runV (As := [.int x1]) (rest := []) ⟨hx, hb, hml, hown, hts⟩ (c_X11_wants l dC dI cy a g x1) (cwV 1 hts g_L_law_X11_wants_86 rfl rfl rfl (by decide +kernel) ⟨Nat.le_of_ble_eq_true rfl, Nat.le_of_ble_eq_true rfl⟩) (pv_pp hC hPc (ci := 11) (q0 := 0) rfl rfl) rfl rfl hl.1 rfl (lv_room (Nat.le_of_ble_eq_true rfl)) dL_law_671 ⟨Nat.le_of_ble_eq_true rfl, Nat.le_of_ble_eq_true rfl⟩) hP hS (fun r_ H locs hw hP hS => ?_)
  rcases hw with ⟨c1236_, rfl⟩ | ⟨c1237_, c1238_, rfl⟩ | ⟨c1239_, rfl⟩
  · skip
    refine lv_aload_n hx hb dL_law_674 rfl (lv_at hl 1 rfl) ?_
    refine lv_aload_n hx hb dL_law_675 rfl (lv_at hl 3 rfl) ?_
    refine lv_iload_n hx hb dL_law_676 rfl (lv_at hl 0 rfl) ?_
    refine lv_iconst (v := 1) hx hb dL_law_677 (by decide) ?_
    refine lv_iadd hx hb dL_law_678 ?_
    refine tk_i 1 (by decide) ?_
    refine va_sld hx hb hX hbl hbA hS (show ¬ ((1 : Int32) < 0 ∨ 6 ≤ Int32.toNatClampNeg 1) by decide) dL_law_679 ?_
    refine tk_i x1 ex1 ?_
    have hPc : va_P (dC, dI) vwCl (mw b cy) _ := hP.sub [56, 57, 58, 59, 60, 61, 62, 63] rfl
    have hDc := hD.sub (ws' := mw b cy) [56, 57, 58, 59, 60, 61, 62, 63] (by decide) rfl
    have hFc := va_free (wc := mw b cy) hD hS hA [56, 57, 58, 59, 60, 61, 62, 63] rfl
    refine va_calll (va_runV (As := [.int x1]) (rest := [.long (Int32.toInt64 (-1))]) ⟨hx, hb, hml, hown, hts⟩ (c_X12_wants l dC dI cy b _ x1) (cwV 1 hts g_L_law_X12_wants_90 rfl rfl rfl (by decide +kernel) ⟨Nat.le_of_ble_eq_true rfl, Nat.le_of_ble_eq_true rfl⟩) (pv_ps hC hPc hDc (ci := 12) (q0 := 0) rfl rfl) rfl rfl hl.1 rfl (lv_room (Nat.le_of_ble_eq_true rfl)) dL_law_680 ⟨Nat.le_of_ble_eq_true rfl, Nat.le_of_ble_eq_true rfl⟩) hS (fun q _ h => hFc q h) hFc (fun r_ u t_ H1 locs ht hvm hw hB hz1 hk1 hS => ?_)
    obtain ⟨hP, hD⟩ := va_join (wr := []) (w1 := []) hP hD [56, 57, 58, 59, 60, 61, 62, 63] [] rfl rfl (by decide) (by decide) hk1 hFc va_P0 va_D0
    generalize H1 = H at hP hS ⊢
    have hP : va_P (dC, dI) vwCl ([]) H := hP
    have hD : va_D A ([]) := hD
    rcases hw with ⟨c1240_, rfl⟩ | ⟨c1241_, c1242_, rfl⟩ | ⟨c1243_, rfl⟩
    · skip
      refine W.lcmp hx hb dL_law_683 ?_
      refine tk_i 0 (by decide) ?_
      refine lv_if_eq (tgt := 983) hx hb dL_law_684 (by decide) (fun _ => ?_) (fun c9_ => absurd (by decide) c9_)
      refine lv_iinc (v := 6) (lv' := [(3, .int 6), (2, .ref (b 0)), (1, .ref (a 0)), (0, .ref sc)]) hx hb dL_law_983 hl (k := 0) rfl (by decide) (by decide) rfl (fun ls hl => ?_)
      refine lv_goto (tgt := 18) hx hb dL_law_986 (by decide) ?_
      refine lv_iload_n hx hb dL_law_18 rfl (lv_at hl 0 rfl) ?_
      refine lv_aload_n hx hb dL_law_19 rfl (lv_at hl 3 rfl) ?_
      refine va_slen hx hb hX hbl hbA hS dL_law_20 ?_
      refine tk_i 6 (by decide) ?_
      refine lv_bipush (v := 6) hx hb dL_law_21 (by decide) ?_
      refine lv_isub hx hb dL_law_23 ?_
      refine tk_i 0 (by decide) ?_
      refine lv_icmp_gt (tgt := 989) hx hb dL_law_24 (by decide) (fun _ => ?_) (fun c9_ => absurd (by decide) c9_)
      refine lv_iconst (v := 1) hx hb dL_law_989 (by decide) ?_
      refine va_forget (fun q hq => by have h := hS.2.2 q hq; rw [hAe] at h; exact h) ?_
      refine W.widen (k := 600000) (n := 7302249) (Nat.le_of_ble_eq_true rfl) (Nat.le_of_ble_eq_true rfl) ?_
      exact lw_ret hx hb hr hlocks dL_law_990
    · skip
      exfalso
      have z0_ := tz_lt_r c1236_ (show (0 : Int32).toInt = 0 by decide)
      have z1_ := tz_nlt_r c1241_ (show (0 : Int32).toInt = 0 by decide)
      omega
    · skip
      exfalso
      have z0_ := tz_lt_r c1236_ (show (0 : Int32).toInt = 0 by decide)
      have z1_ := tz_eq_r c1243_ (show (0 : Int32).toInt = 0 by decide)
      omega
  · skip
    refine lv_aload_n hx hb dL_law_674 rfl (lv_at hl 1 rfl) ?_
    refine lv_aload_n hx hb dL_law_675 rfl (lv_at hl 3 rfl) ?_
    refine lv_iload_n hx hb dL_law_676 rfl (lv_at hl 0 rfl) ?_
    refine lv_iconst (v := 1) hx hb dL_law_677 (by decide) ?_
    refine lv_iadd hx hb dL_law_678 ?_
    refine tk_i 1 (by decide) ?_
    refine va_sld hx hb hX hbl hbA hS (show ¬ ((1 : Int32) < 0 ∨ 6 ≤ Int32.toNatClampNeg 1) by decide) dL_law_679 ?_
    refine tk_i x1 ex1 ?_
    have hPc : va_P (dC, dI) vwCl (mw b cy) _ := hP.sub [56, 57, 58, 59, 60, 61, 62, 63] rfl
    have hDc := hD.sub (ws' := mw b cy) [56, 57, 58, 59, 60, 61, 62, 63] (by decide) rfl
    have hFc := va_free (wc := mw b cy) hD hS hA [56, 57, 58, 59, 60, 61, 62, 63] rfl
    refine va_calll (va_runV (As := [.int x1]) (rest := [.long (Int32.toInt64 (-1))]) ⟨hx, hb, hml, hown, hts⟩ (c_X12_wants l dC dI cy b _ x1) (cwV 1 hts g_L_law_X12_wants_90 rfl rfl rfl (by decide +kernel) ⟨Nat.le_of_ble_eq_true rfl, Nat.le_of_ble_eq_true rfl⟩) (pv_ps hC hPc hDc (ci := 12) (q0 := 0) rfl rfl) rfl rfl hl.1 rfl (lv_room (Nat.le_of_ble_eq_true rfl)) dL_law_680 ⟨Nat.le_of_ble_eq_true rfl, Nat.le_of_ble_eq_true rfl⟩) hS (fun q _ h => hFc q h) hFc (fun r_ u t_ H1 locs ht hvm hw hB hz1 hk1 hS => ?_)
    obtain ⟨hP, hD⟩ := va_join (wr := []) (w1 := []) hP hD [56, 57, 58, 59, 60, 61, 62, 63] [] rfl rfl (by decide) (by decide) hk1 hFc va_P0 va_D0
    generalize H1 = H at hP hS ⊢
    have hP : va_P (dC, dI) vwCl ([]) H := hP
    have hD : va_D A ([]) := hD
    rcases hw with ⟨c1244_, rfl⟩ | ⟨c1245_, c1246_, rfl⟩ | ⟨c1247_, rfl⟩
    · skip
      exfalso
      have z0_ := tz_nlt_r c1237_ (show (0 : Int32).toInt = 0 by decide)
      have z1_ := tz_le_l c1238_ (show (1 : Int32).toInt = 1 by decide)
      have z2_ := tz_lt_r c1244_ (show (0 : Int32).toInt = 0 by decide)
      omega
    · skip
      refine W.lcmp hx hb dL_law_683 ?_
      refine tk_i 0 (by decide) ?_
      refine lv_if_eq (tgt := 983) hx hb dL_law_684 (by decide) (fun _ => ?_) (fun c9_ => absurd (by decide) c9_)
      refine lv_iinc (v := 6) (lv' := [(3, .int 6), (2, .ref (b 0)), (1, .ref (a 0)), (0, .ref sc)]) hx hb dL_law_983 hl (k := 0) rfl (by decide) (by decide) rfl (fun ls hl => ?_)
      refine lv_goto (tgt := 18) hx hb dL_law_986 (by decide) ?_
      refine lv_iload_n hx hb dL_law_18 rfl (lv_at hl 0 rfl) ?_
      refine lv_aload_n hx hb dL_law_19 rfl (lv_at hl 3 rfl) ?_
      refine va_slen hx hb hX hbl hbA hS dL_law_20 ?_
      refine tk_i 6 (by decide) ?_
      refine lv_bipush (v := 6) hx hb dL_law_21 (by decide) ?_
      refine lv_isub hx hb dL_law_23 ?_
      refine tk_i 0 (by decide) ?_
      refine lv_icmp_gt (tgt := 989) hx hb dL_law_24 (by decide) (fun _ => ?_) (fun c9_ => absurd (by decide) c9_)
      refine lv_iconst (v := 1) hx hb dL_law_989 (by decide) ?_
      refine va_forget (fun q hq => by have h := hS.2.2 q hq; rw [hAe] at h; exact h) ?_
      refine W.widen (k := 600000) (n := 7302249) (Nat.le_of_ble_eq_true rfl) (Nat.le_of_ble_eq_true rfl) ?_
      exact lw_ret hx hb hr hlocks dL_law_990
    · skip
      exfalso
      have z0_ := tz_nlt_r c1237_ (show (0 : Int32).toInt = 0 by decide)
      have z1_ := tz_le_l c1238_ (show (1 : Int32).toInt = 1 by decide)
      have z2_ := tz_eq_r c1247_ (show (0 : Int32).toInt = 0 by decide)
      omega
  · skip
    subst c1239_
    refine lv_aload_n hx hb dL_law_674 rfl (lv_at hl 1 rfl) ?_
    refine lv_aload_n hx hb dL_law_675 rfl (lv_at hl 3 rfl) ?_
    refine lv_iload_n hx hb dL_law_676 rfl (lv_at hl 0 rfl) ?_
    refine lv_iconst (v := 1) hx hb dL_law_677 (by decide) ?_
    refine lv_iadd hx hb dL_law_678 ?_
    refine tk_i 1 (by decide) ?_
    refine va_sld hx hb hX hbl hbA hS (show ¬ ((1 : Int32) < 0 ∨ 6 ≤ Int32.toNatClampNeg 1) by decide) dL_law_679 ?_
    refine tk_i 0 ex1 ?_
    have hPc : va_P (dC, dI) vwCl (mw b cy) _ := hP.sub [56, 57, 58, 59, 60, 61, 62, 63] rfl
    have hDc := hD.sub (ws' := mw b cy) [56, 57, 58, 59, 60, 61, 62, 63] (by decide) rfl
    have hFc := va_free (wc := mw b cy) hD hS hA [56, 57, 58, 59, 60, 61, 62, 63] rfl
    refine va_calll (va_runV (As := [.int 0]) (rest := [.long (Int32.toInt64 0)]) ⟨hx, hb, hml, hown, hts⟩ (c_X12_wants l dC dI cy b _ 0) (cwV 1 hts g_L_law_X12_wants_90 rfl rfl rfl (by decide +kernel) ⟨Nat.le_of_ble_eq_true rfl, Nat.le_of_ble_eq_true rfl⟩) (pv_ps hC hPc hDc (ci := 12) (q0 := 0) rfl rfl) rfl rfl hl.1 rfl (lv_room (Nat.le_of_ble_eq_true rfl)) dL_law_680 ⟨Nat.le_of_ble_eq_true rfl, Nat.le_of_ble_eq_true rfl⟩) hS (fun q _ h => hFc q h) hFc (fun r_ u t_ H1 locs ht hvm hw hB hz1 hk1 hS => ?_)
    obtain ⟨hP, hD⟩ := va_join (wr := []) (w1 := []) hP hD [56, 57, 58, 59, 60, 61, 62, 63] [] rfl rfl (by decide) (by decide) hk1 hFc va_P0 va_D0
    generalize H1 = H at hP hS ⊢
    have hP : va_P (dC, dI) vwCl ([]) H := hP
    have hD : va_D A ([]) := hD
    rcases hw with ⟨c1248_, rfl⟩ | ⟨-, c1250_, rfl⟩ | ⟨-, rfl⟩
    · skip
      exact absurd c1248_ (by decide)
    · skip
      exact absurd c1250_ (by decide)
    · skip
      refine W.lcmp hx hb dL_law_683 ?_
      refine tk_i 0 (by decide) ?_
      refine lv_if_eq (tgt := 983) hx hb dL_law_684 (by decide) (fun _ => ?_) (fun c9_ => absurd (by decide) c9_)
      refine lv_iinc (v := 6) (lv' := [(3, .int 6), (2, .ref (b 0)), (1, .ref (a 0)), (0, .ref sc)]) hx hb dL_law_983 hl (k := 0) rfl (by decide) (by decide) rfl (fun ls hl => ?_)
      refine lv_goto (tgt := 18) hx hb dL_law_986 (by decide) ?_
      refine lv_iload_n hx hb dL_law_18 rfl (lv_at hl 0 rfl) ?_
      refine lv_aload_n hx hb dL_law_19 rfl (lv_at hl 3 rfl) ?_
      refine va_slen hx hb hX hbl hbA hS dL_law_20 ?_
      refine tk_i 6 (by decide) ?_
      refine lv_bipush (v := 6) hx hb dL_law_21 (by decide) ?_
      refine lv_isub hx hb dL_law_23 ?_
      refine tk_i 0 (by decide) ?_
      refine lv_icmp_gt (tgt := 989) hx hb dL_law_24 (by decide) (fun _ => ?_) (fun c9_ => absurd (by decide) c9_)
      refine lv_iconst (v := 1) hx hb dL_law_989 (by decide) ?_
      refine va_forget (fun q hq => by have h := hS.2.2 q hq; rw [hAe] at h; exact h) ?_
      refine W.widen (k := 600000) (n := 7302249) (Nat.le_of_ble_eq_true rfl) (Nat.le_of_ble_eq_true rfl) ?_
      exact lw_ret hx hb hr hlocks dL_law_990
set_option maxHeartbeats 40000000 in
set_option maxRecDepth 100000 in
theorem lawc_18 {p : Program} {e : Env} {s : State} {m : MethodId} {below : List Frame} {meth : Method} {c : Code} (l : Launch) {sc : Nat} {xs : Nat → Int32} {A : Nat → Prop} {dC : Nat → ClassId} {dI : Nat → Nat → Nat} {cy : Nat → ClassId} {a b : Nat → Nat} {g : Nat → Nat → Option Nat} (hAe : A = fun q => s.heap.size ≤ q) (C0 : lw_At p s m meth c sc 6 xs) (hC : cK dC dI cy s) {H : Heap} {locs : List Loc} {ls : Array Slot} (hP : va_P (dC, dI) vwCl (fw a cy g ++ mw b cy) H) (hD : va_D A (fw a cy g ++ mw b cy)) (hS : va_S A s.heap H locs) (hl : lv_has ls 4 [(3, .int 0), (2, .ref (b 0)), (1, .ref (a 0)), (0, .ref sc)]) : W p l e room_1 s m #[Value.ref sc] below meth c H locs 1000 100000 (lw_Z below #[Value.ref sc] s) (F0 m 689 ls []) := by
  obtain ⟨hx, hb, hr, hml, hown, hts0, hX, hbl, hlocks, -⟩ := C0
  have hown : s.vm.findClass RL = some m.cls := hown
  have hts : ∀ w ∈ v_L_law, w.before #[Value.ref sc] s = true := fun w h => hts0 w (v_L_in w h)
  have hK := hC.1
  have hA : ∀ q : Nat, s.heap.size ≤ q → A q := fun q h => by rw [hAe]; exact h
  have hbA : ¬ A sc := by
    rw [hAe]
    exact Nat.not_le.mpr hbl
  obtain ⟨x0, ex0⟩ : ∃ z : Int32, xs (Int32.toNatClampNeg 0) = z := ⟨_, rfl⟩
  obtain ⟨x1, ex1⟩ : ∃ z : Int32, xs (Int32.toNatClampNeg 1) = z := ⟨_, rfl⟩
  obtain ⟨x2, ex2⟩ : ∃ z : Int32, xs (Int32.toNatClampNeg 2) = z := ⟨_, rfl⟩
  obtain ⟨x3, ex3⟩ : ∃ z : Int32, xs (Int32.toNatClampNeg 3) = z := ⟨_, rfl⟩
  obtain ⟨x4, ex4⟩ : ∃ z : Int32, xs (Int32.toNatClampNeg 4) = z := ⟨_, rfl⟩
  obtain ⟨x5, ex5⟩ : ∃ z : Int32, xs (Int32.toNatClampNeg 5) = z := ⟨_, rfl⟩
  refine lv_aload_n hx hb dL_law_689 rfl (lv_at hl 2 rfl) ?_
  refine lv_aload_n hx hb dL_law_690 rfl (lv_at hl 3 rfl) ?_
  refine lv_iload_n hx hb dL_law_691 rfl (lv_at hl 0 rfl) ?_
  refine lv_iconst (v := 1) hx hb dL_law_692 (by decide) ?_
  refine lv_iadd hx hb dL_law_693 ?_
  refine tk_i 1 (by decide) ?_
  refine va_sld hx hb hX hbl hbA hS (show ¬ ((1 : Int32) < 0 ∨ 6 ≤ Int32.toNatClampNeg 1) by decide) dL_law_694 ?_
  refine tk_i x1 ex1 ?_
  have hPc : va_P (dC, dI) vwCl (fw a cy g) _ := hP.sub [0, 1, 2, 3, 4, 5, 6, 7, 8, 9, 10, 11, 12, 13, 14, 15, 16, 17, 18, 19, 20, 21, 22, 23, 24, 25, 26, 27, 28, 29, 30, 31, 32, 33, 34, 35, 36, 37, 38, 39, 40, 41, 42, 43, 44, 45, 46, 47, 48, 49, 50, 51, 52, 53, 54, 55] rfl
  refine tk_pl (va_runV (As := [.int x1]) (rest := []) ⟨hx, hb, hml, hown, hts⟩ (c_X11_wanted l dC dI cy a g x1) (cwV 1 hts g_L_law_X11_wanted_91 rfl rfl rfl (by decide +kernel) ⟨Nat.le_of_ble_eq_true rfl, Nat.le_of_ble_eq_true rfl⟩) (pv_pp hC hPc (ci := 11) (q0 := 0) rfl rfl) rfl rfl hl.1 rfl (lv_room (Nat.le_of_ble_eq_true rfl)) dL_law_695 ⟨Nat.le_of_ble_eq_true rfl, Nat.le_of_ble_eq_true rfl⟩) hP hS (fun r_ H locs hw hP hS => ?_)
  rcases hw with ⟨c1252_, rfl⟩ | ⟨c1253_, c1254_, rfl⟩ | ⟨c1255_, rfl⟩
  · skip
    refine lv_aload_n hx hb dL_law_698 rfl (lv_at hl 1 rfl) ?_
    refine lv_aload_n hx hb dL_law_699 rfl (lv_at hl 3 rfl) ?_
    refine lv_iload_n hx hb dL_law_700 rfl (lv_at hl 0 rfl) ?_
    refine lv_iconst (v := 1) hx hb dL_law_701 (by decide) ?_
    refine lv_iadd hx hb dL_law_702 ?_
    refine tk_i 1 (by decide) ?_
    refine va_sld hx hb hX hbl hbA hS (show ¬ ((1 : Int32) < 0 ∨ 6 ≤ Int32.toNatClampNeg 1) by decide) dL_law_703 ?_
    refine tk_i x1 ex1 ?_
    have hPc : va_P (dC, dI) vwCl (mw b cy) _ := hP.sub [56, 57, 58, 59, 60, 61, 62, 63] rfl
    have hDc := hD.sub (ws' := mw b cy) [56, 57, 58, 59, 60, 61, 62, 63] (by decide) rfl
    have hFc := va_free (wc := mw b cy) hD hS hA [56, 57, 58, 59, 60, 61, 62, 63] rfl
    refine va_calll (va_runV (As := [.int x1]) (rest := [.long (Int32.toInt64 (-1))]) ⟨hx, hb, hml, hown, hts⟩ (c_X12_wanted l dC dI cy b _ x1) (cwV 1 hts g_L_law_X12_wanted_94 rfl rfl rfl (by decide +kernel) ⟨Nat.le_of_ble_eq_true rfl, Nat.le_of_ble_eq_true rfl⟩) (pv_ps hC hPc hDc (ci := 12) (q0 := 0) rfl rfl) rfl rfl hl.1 rfl (lv_room (Nat.le_of_ble_eq_true rfl)) dL_law_704 ⟨Nat.le_of_ble_eq_true rfl, Nat.le_of_ble_eq_true rfl⟩) hS (fun q _ h => hFc q h) hFc (fun r_ u t_ H1 locs ht hvm hw hB hz1 hk1 hS => ?_)
    obtain ⟨hP, hD⟩ := va_join (wr := []) (w1 := []) hP hD [56, 57, 58, 59, 60, 61, 62, 63] [] rfl rfl (by decide) (by decide) hk1 hFc va_P0 va_D0
    generalize H1 = H at hP hS ⊢
    have hP : va_P (dC, dI) vwCl ([]) H := hP
    have hD : va_D A ([]) := hD
    rcases hw with ⟨c1256_, rfl⟩ | ⟨c1257_, c1258_, rfl⟩ | ⟨c1259_, rfl⟩
    · skip
      refine W.lcmp hx hb dL_law_707 ?_
      refine tk_i 0 (by decide) ?_
      refine lv_if_eq (tgt := 983) hx hb dL_law_708 (by decide) (fun _ => ?_) (fun c9_ => absurd (by decide) c9_)
      refine lv_iinc (v := 6) (lv' := [(3, .int 6), (2, .ref (b 0)), (1, .ref (a 0)), (0, .ref sc)]) hx hb dL_law_983 hl (k := 0) rfl (by decide) (by decide) rfl (fun ls hl => ?_)
      refine lv_goto (tgt := 18) hx hb dL_law_986 (by decide) ?_
      refine lv_iload_n hx hb dL_law_18 rfl (lv_at hl 0 rfl) ?_
      refine lv_aload_n hx hb dL_law_19 rfl (lv_at hl 3 rfl) ?_
      refine va_slen hx hb hX hbl hbA hS dL_law_20 ?_
      refine tk_i 6 (by decide) ?_
      refine lv_bipush (v := 6) hx hb dL_law_21 (by decide) ?_
      refine lv_isub hx hb dL_law_23 ?_
      refine tk_i 0 (by decide) ?_
      refine lv_icmp_gt (tgt := 989) hx hb dL_law_24 (by decide) (fun _ => ?_) (fun c9_ => absurd (by decide) c9_)
      refine lv_iconst (v := 1) hx hb dL_law_989 (by decide) ?_
      refine va_forget (fun q hq => by have h := hS.2.2 q hq; rw [hAe] at h; exact h) ?_
      refine W.widen (k := 600000) (n := 7302249) (Nat.le_of_ble_eq_true rfl) (Nat.le_of_ble_eq_true rfl) ?_
      exact lw_ret hx hb hr hlocks dL_law_990
    · skip
      exfalso
      have z0_ := tz_lt_r c1252_ (show (0 : Int32).toInt = 0 by decide)
      have z1_ := tz_nlt_r c1257_ (show (0 : Int32).toInt = 0 by decide)
      omega
    · skip
      exfalso
      have z0_ := tz_lt_r c1252_ (show (0 : Int32).toInt = 0 by decide)
      have z1_ := tz_eq_r c1259_ (show (0 : Int32).toInt = 0 by decide)
      omega
  · skip
    refine lv_aload_n hx hb dL_law_698 rfl (lv_at hl 1 rfl) ?_
    refine lv_aload_n hx hb dL_law_699 rfl (lv_at hl 3 rfl) ?_
    refine lv_iload_n hx hb dL_law_700 rfl (lv_at hl 0 rfl) ?_
    refine lv_iconst (v := 1) hx hb dL_law_701 (by decide) ?_
    refine lv_iadd hx hb dL_law_702 ?_
    refine tk_i 1 (by decide) ?_
    refine va_sld hx hb hX hbl hbA hS (show ¬ ((1 : Int32) < 0 ∨ 6 ≤ Int32.toNatClampNeg 1) by decide) dL_law_703 ?_
    refine tk_i x1 ex1 ?_
    have hPc : va_P (dC, dI) vwCl (mw b cy) _ := hP.sub [56, 57, 58, 59, 60, 61, 62, 63] rfl
    have hDc := hD.sub (ws' := mw b cy) [56, 57, 58, 59, 60, 61, 62, 63] (by decide) rfl
    have hFc := va_free (wc := mw b cy) hD hS hA [56, 57, 58, 59, 60, 61, 62, 63] rfl
    refine va_calll (va_runV (As := [.int x1]) (rest := [.long (Int32.toInt64 (-1))]) ⟨hx, hb, hml, hown, hts⟩ (c_X12_wanted l dC dI cy b _ x1) (cwV 1 hts g_L_law_X12_wanted_94 rfl rfl rfl (by decide +kernel) ⟨Nat.le_of_ble_eq_true rfl, Nat.le_of_ble_eq_true rfl⟩) (pv_ps hC hPc hDc (ci := 12) (q0 := 0) rfl rfl) rfl rfl hl.1 rfl (lv_room (Nat.le_of_ble_eq_true rfl)) dL_law_704 ⟨Nat.le_of_ble_eq_true rfl, Nat.le_of_ble_eq_true rfl⟩) hS (fun q _ h => hFc q h) hFc (fun r_ u t_ H1 locs ht hvm hw hB hz1 hk1 hS => ?_)
    obtain ⟨hP, hD⟩ := va_join (wr := []) (w1 := []) hP hD [56, 57, 58, 59, 60, 61, 62, 63] [] rfl rfl (by decide) (by decide) hk1 hFc va_P0 va_D0
    generalize H1 = H at hP hS ⊢
    have hP : va_P (dC, dI) vwCl ([]) H := hP
    have hD : va_D A ([]) := hD
    rcases hw with ⟨c1260_, rfl⟩ | ⟨c1261_, c1262_, rfl⟩ | ⟨c1263_, rfl⟩
    · skip
      exfalso
      have z0_ := tz_nlt_r c1253_ (show (0 : Int32).toInt = 0 by decide)
      have z1_ := tz_le_l c1254_ (show (1 : Int32).toInt = 1 by decide)
      have z2_ := tz_lt_r c1260_ (show (0 : Int32).toInt = 0 by decide)
      omega
    · skip
      refine W.lcmp hx hb dL_law_707 ?_
      refine tk_i 0 (by decide) ?_
      refine lv_if_eq (tgt := 983) hx hb dL_law_708 (by decide) (fun _ => ?_) (fun c9_ => absurd (by decide) c9_)
      refine lv_iinc (v := 6) (lv' := [(3, .int 6), (2, .ref (b 0)), (1, .ref (a 0)), (0, .ref sc)]) hx hb dL_law_983 hl (k := 0) rfl (by decide) (by decide) rfl (fun ls hl => ?_)
      refine lv_goto (tgt := 18) hx hb dL_law_986 (by decide) ?_
      refine lv_iload_n hx hb dL_law_18 rfl (lv_at hl 0 rfl) ?_
      refine lv_aload_n hx hb dL_law_19 rfl (lv_at hl 3 rfl) ?_
      refine va_slen hx hb hX hbl hbA hS dL_law_20 ?_
      refine tk_i 6 (by decide) ?_
      refine lv_bipush (v := 6) hx hb dL_law_21 (by decide) ?_
      refine lv_isub hx hb dL_law_23 ?_
      refine tk_i 0 (by decide) ?_
      refine lv_icmp_gt (tgt := 989) hx hb dL_law_24 (by decide) (fun _ => ?_) (fun c9_ => absurd (by decide) c9_)
      refine lv_iconst (v := 1) hx hb dL_law_989 (by decide) ?_
      refine va_forget (fun q hq => by have h := hS.2.2 q hq; rw [hAe] at h; exact h) ?_
      refine W.widen (k := 600000) (n := 7302249) (Nat.le_of_ble_eq_true rfl) (Nat.le_of_ble_eq_true rfl) ?_
      exact lw_ret hx hb hr hlocks dL_law_990
    · skip
      exfalso
      have z0_ := tz_nlt_r c1253_ (show (0 : Int32).toInt = 0 by decide)
      have z1_ := tz_le_l c1254_ (show (1 : Int32).toInt = 1 by decide)
      have z2_ := tz_eq_r c1263_ (show (0 : Int32).toInt = 0 by decide)
      omega
  · skip
    subst c1255_
    refine lv_aload_n hx hb dL_law_698 rfl (lv_at hl 1 rfl) ?_
    refine lv_aload_n hx hb dL_law_699 rfl (lv_at hl 3 rfl) ?_
    refine lv_iload_n hx hb dL_law_700 rfl (lv_at hl 0 rfl) ?_
    refine lv_iconst (v := 1) hx hb dL_law_701 (by decide) ?_
    refine lv_iadd hx hb dL_law_702 ?_
    refine tk_i 1 (by decide) ?_
    refine va_sld hx hb hX hbl hbA hS (show ¬ ((1 : Int32) < 0 ∨ 6 ≤ Int32.toNatClampNeg 1) by decide) dL_law_703 ?_
    refine tk_i 0 ex1 ?_
    have hPc : va_P (dC, dI) vwCl (mw b cy) _ := hP.sub [56, 57, 58, 59, 60, 61, 62, 63] rfl
    have hDc := hD.sub (ws' := mw b cy) [56, 57, 58, 59, 60, 61, 62, 63] (by decide) rfl
    have hFc := va_free (wc := mw b cy) hD hS hA [56, 57, 58, 59, 60, 61, 62, 63] rfl
    refine va_calll (va_runV (As := [.int 0]) (rest := [.long (Int32.toInt64 (-1))]) ⟨hx, hb, hml, hown, hts⟩ (c_X12_wanted l dC dI cy b _ 0) (cwV 1 hts g_L_law_X12_wanted_94 rfl rfl rfl (by decide +kernel) ⟨Nat.le_of_ble_eq_true rfl, Nat.le_of_ble_eq_true rfl⟩) (pv_ps hC hPc hDc (ci := 12) (q0 := 0) rfl rfl) rfl rfl hl.1 rfl (lv_room (Nat.le_of_ble_eq_true rfl)) dL_law_704 ⟨Nat.le_of_ble_eq_true rfl, Nat.le_of_ble_eq_true rfl⟩) hS (fun q _ h => hFc q h) hFc (fun r_ u t_ H1 locs ht hvm hw hB hz1 hk1 hS => ?_)
    obtain ⟨hP, hD⟩ := va_join (wr := []) (w1 := []) hP hD [56, 57, 58, 59, 60, 61, 62, 63] [] rfl rfl (by decide) (by decide) hk1 hFc va_P0 va_D0
    generalize H1 = H at hP hS ⊢
    have hP : va_P (dC, dI) vwCl ([]) H := hP
    have hD : va_D A ([]) := hD
    rcases hw with ⟨c1264_, rfl⟩ | ⟨-, c1266_, rfl⟩ | ⟨-, rfl⟩
    · skip
      exact absurd c1264_ (by decide)
    · skip
      exact absurd c1266_ (by decide)
    · skip
      refine W.lcmp hx hb dL_law_707 ?_
      refine tk_i 0 (by decide) ?_
      refine lv_if_eq (tgt := 983) hx hb dL_law_708 (by decide) (fun _ => ?_) (fun c9_ => absurd (by decide) c9_)
      refine lv_iinc (v := 6) (lv' := [(3, .int 6), (2, .ref (b 0)), (1, .ref (a 0)), (0, .ref sc)]) hx hb dL_law_983 hl (k := 0) rfl (by decide) (by decide) rfl (fun ls hl => ?_)
      refine lv_goto (tgt := 18) hx hb dL_law_986 (by decide) ?_
      refine lv_iload_n hx hb dL_law_18 rfl (lv_at hl 0 rfl) ?_
      refine lv_aload_n hx hb dL_law_19 rfl (lv_at hl 3 rfl) ?_
      refine va_slen hx hb hX hbl hbA hS dL_law_20 ?_
      refine tk_i 6 (by decide) ?_
      refine lv_bipush (v := 6) hx hb dL_law_21 (by decide) ?_
      refine lv_isub hx hb dL_law_23 ?_
      refine tk_i 0 (by decide) ?_
      refine lv_icmp_gt (tgt := 989) hx hb dL_law_24 (by decide) (fun _ => ?_) (fun c9_ => absurd (by decide) c9_)
      refine lv_iconst (v := 1) hx hb dL_law_989 (by decide) ?_
      refine va_forget (fun q hq => by have h := hS.2.2 q hq; rw [hAe] at h; exact h) ?_
      refine W.widen (k := 600000) (n := 7302249) (Nat.le_of_ble_eq_true rfl) (Nat.le_of_ble_eq_true rfl) ?_
      exact lw_ret hx hb hr hlocks dL_law_990
set_option maxHeartbeats 40000000 in
set_option maxRecDepth 100000 in
theorem lawc_19 {p : Program} {e : Env} {s : State} {m : MethodId} {below : List Frame} {meth : Method} {c : Code} (l : Launch) {sc : Nat} {xs : Nat → Int32} {A : Nat → Prop} {dC : Nat → ClassId} {dI : Nat → Nat → Nat} {cy : Nat → ClassId} {a b : Nat → Nat} {g : Nat → Nat → Option Nat} (hAe : A = fun q => s.heap.size ≤ q) (C0 : lw_At p s m meth c sc 6 xs) (hC : cK dC dI cy s) {H : Heap} {locs : List Loc} {ls : Array Slot} (hP : va_P (dC, dI) vwCl (fw a cy g ++ mw b cy) H) (hD : va_D A (fw a cy g ++ mw b cy)) (hS : va_S A s.heap H locs) (hl : lv_has ls 4 [(3, .int 0), (2, .ref (b 0)), (1, .ref (a 0)), (0, .ref sc)]) : W p l e room_1 s m #[Value.ref sc] below meth c H locs 1000 100000 (lw_Z below #[Value.ref sc] s) (F0 m 713 ls []) := by
  obtain ⟨hx, hb, hr, hml, hown, hts0, hX, hbl, hlocks, -⟩ := C0
  have hown : s.vm.findClass RL = some m.cls := hown
  have hts : ∀ w ∈ v_L_law, w.before #[Value.ref sc] s = true := fun w h => hts0 w (v_L_in w h)
  have hK := hC.1
  have hA : ∀ q : Nat, s.heap.size ≤ q → A q := fun q h => by rw [hAe]; exact h
  have hbA : ¬ A sc := by
    rw [hAe]
    exact Nat.not_le.mpr hbl
  obtain ⟨x0, ex0⟩ : ∃ z : Int32, xs (Int32.toNatClampNeg 0) = z := ⟨_, rfl⟩
  obtain ⟨x1, ex1⟩ : ∃ z : Int32, xs (Int32.toNatClampNeg 1) = z := ⟨_, rfl⟩
  obtain ⟨x2, ex2⟩ : ∃ z : Int32, xs (Int32.toNatClampNeg 2) = z := ⟨_, rfl⟩
  obtain ⟨x3, ex3⟩ : ∃ z : Int32, xs (Int32.toNatClampNeg 3) = z := ⟨_, rfl⟩
  obtain ⟨x4, ex4⟩ : ∃ z : Int32, xs (Int32.toNatClampNeg 4) = z := ⟨_, rfl⟩
  obtain ⟨x5, ex5⟩ : ∃ z : Int32, xs (Int32.toNatClampNeg 5) = z := ⟨_, rfl⟩
  refine lv_aload_n hx hb dL_law_713 rfl (lv_at hl 2 rfl) ?_
  have hPc : va_P (dC, dI) vwCl (fw a cy g) _ := hP.sub [0, 1, 2, 3, 4, 5, 6, 7, 8, 9, 10, 11, 12, 13, 14, 15, 16, 17, 18, 19, 20, 21, 22, 23, 24, 25, 26, 27, 28, 29, 30, 31, 32, 33, 34, 35, 36, 37, 38, 39, 40, 41, 42, 43, 44, 45, 46, 47, 48, 49, 50, 51, 52, 53, 54, 55] rfl
  refine tk_pi (va_runV (As := []) (rest := []) ⟨hx, hb, hml, hown, hts⟩ (c_X11_deepest l dC dI cy a g) (cwV 0 hts g_L_law_X11_deepest_95 rfl rfl rfl (by decide +kernel) ⟨Nat.le_of_ble_eq_true rfl, Nat.le_of_ble_eq_true rfl⟩) (pv_pp hC hPc (ci := 11) (q0 := 0) rfl rfl) rfl rfl hl.1 rfl (lv_room (Nat.le_of_ble_eq_true rfl)) dL_law_714 ⟨Nat.le_of_ble_eq_true rfl, Nat.le_of_ble_eq_true rfl⟩) hP hS (fun r_ H locs hw hP hS => ?_)
  subst hw
  refine lv_aload_n hx hb dL_law_717 rfl (lv_at hl 1 rfl) ?_
  have hPc : va_P (dC, dI) vwCl (mw b cy) _ := hP.sub [56, 57, 58, 59, 60, 61, 62, 63] rfl
  have hDc := hD.sub (ws' := mw b cy) [56, 57, 58, 59, 60, 61, 62, 63] (by decide) rfl
  have hFc := va_free (wc := mw b cy) hD hS hA [56, 57, 58, 59, 60, 61, 62, 63] rfl
  refine va_calli (va_runV (As := []) (rest := [.int 0]) ⟨hx, hb, hml, hown, hts⟩ (c_X12_deepest l dC dI cy b _) (cwV 0 hts g_L_law_X12_deepest_98 rfl rfl rfl (by decide +kernel) ⟨Nat.le_of_ble_eq_true rfl, Nat.le_of_ble_eq_true rfl⟩) (pv_ps hC hPc hDc (ci := 12) (q0 := 0) rfl rfl) rfl rfl hl.1 rfl (lv_room (Nat.le_of_ble_eq_true rfl)) dL_law_718 ⟨Nat.le_of_ble_eq_true rfl, Nat.le_of_ble_eq_true rfl⟩) hS (fun q _ h => hFc q h) hFc (fun r_ u t_ H1 locs ht hvm hw hB hz1 hk1 hS => ?_)
  obtain ⟨hP, hD⟩ := va_join (wr := []) (w1 := []) hP hD [56, 57, 58, 59, 60, 61, 62, 63] [] rfl rfl (by decide) (by decide) hk1 hFc va_P0 va_D0
  generalize H1 = H at hP hS ⊢
  have hP : va_P (dC, dI) vwCl ([]) H := hP
  have hD : va_D A ([]) := hD
  subst hw
  refine lv_icmp_eq (tgt := 983) hx hb dL_law_721 (by decide) (fun _ => ?_) (fun c9_ => absurd (by decide) c9_)
  refine lv_iinc (v := 6) (lv' := [(3, .int 6), (2, .ref (b 0)), (1, .ref (a 0)), (0, .ref sc)]) hx hb dL_law_983 hl (k := 0) rfl (by decide) (by decide) rfl (fun ls hl => ?_)
  refine lv_goto (tgt := 18) hx hb dL_law_986 (by decide) ?_
  refine lv_iload_n hx hb dL_law_18 rfl (lv_at hl 0 rfl) ?_
  refine lv_aload_n hx hb dL_law_19 rfl (lv_at hl 3 rfl) ?_
  refine va_slen hx hb hX hbl hbA hS dL_law_20 ?_
  refine tk_i 6 (by decide) ?_
  refine lv_bipush (v := 6) hx hb dL_law_21 (by decide) ?_
  refine lv_isub hx hb dL_law_23 ?_
  refine tk_i 0 (by decide) ?_
  refine lv_icmp_gt (tgt := 989) hx hb dL_law_24 (by decide) (fun _ => ?_) (fun c9_ => absurd (by decide) c9_)
  refine lv_iconst (v := 1) hx hb dL_law_989 (by decide) ?_
  refine va_forget (fun q hq => by have h := hS.2.2 q hq; rw [hAe] at h; exact h) ?_
  refine W.widen (k := 600000) (n := 7302249) (Nat.le_of_ble_eq_true rfl) (Nat.le_of_ble_eq_true rfl) ?_
  exact lw_ret hx hb hr hlocks dL_law_990
set_option maxHeartbeats 40000000 in
set_option maxRecDepth 100000 in
theorem lawc_20 {p : Program} {e : Env} {s : State} {m : MethodId} {below : List Frame} {meth : Method} {c : Code} (l : Launch) {sc : Nat} {xs : Nat → Int32} {A : Nat → Prop} {dC : Nat → ClassId} {dI : Nat → Nat → Nat} {cy : Nat → ClassId} {a b : Nat → Nat} {g : Nat → Nat → Option Nat} (hAe : A = fun q => s.heap.size ≤ q) (C0 : lw_At p s m meth c sc 6 xs) (hC : cK dC dI cy s) {H : Heap} {locs : List Loc} {ls : Array Slot} (hP : va_P (dC, dI) vwCl (fw a cy g ++ mw b cy) H) (hD : va_D A (fw a cy g ++ mw b cy)) (hS : va_S A s.heap H locs) (hl : lv_has ls 4 [(3, .int 0), (2, .ref (b 0)), (1, .ref (a 0)), (0, .ref sc)]) : W p l e room_1 s m #[Value.ref sc] below meth c H locs 1000 100000 (lw_Z below #[Value.ref sc] s) (F0 m 726 ls []) := by
  obtain ⟨hx, hb, hr, hml, hown, hts0, hX, hbl, hlocks, -⟩ := C0
  have hown : s.vm.findClass RL = some m.cls := hown
  have hts : ∀ w ∈ v_L_law, w.before #[Value.ref sc] s = true := fun w h => hts0 w (v_L_in w h)
  have hK := hC.1
  have hA : ∀ q : Nat, s.heap.size ≤ q → A q := fun q h => by rw [hAe]; exact h
  have hbA : ¬ A sc := by
    rw [hAe]
    exact Nat.not_le.mpr hbl
  obtain ⟨x0, ex0⟩ : ∃ z : Int32, xs (Int32.toNatClampNeg 0) = z := ⟨_, rfl⟩
  obtain ⟨x1, ex1⟩ : ∃ z : Int32, xs (Int32.toNatClampNeg 1) = z := ⟨_, rfl⟩
  obtain ⟨x2, ex2⟩ : ∃ z : Int32, xs (Int32.toNatClampNeg 2) = z := ⟨_, rfl⟩
  obtain ⟨x3, ex3⟩ : ∃ z : Int32, xs (Int32.toNatClampNeg 3) = z := ⟨_, rfl⟩
  obtain ⟨x4, ex4⟩ : ∃ z : Int32, xs (Int32.toNatClampNeg 4) = z := ⟨_, rfl⟩
  obtain ⟨x5, ex5⟩ : ∃ z : Int32, xs (Int32.toNatClampNeg 5) = z := ⟨_, rfl⟩
  refine lv_aload_n hx hb dL_law_726 rfl (lv_at hl 2 rfl) ?_
  refine lv_aload_n hx hb dL_law_727 rfl (lv_at hl 3 rfl) ?_
  refine lv_iload_n hx hb dL_law_728 rfl (lv_at hl 0 rfl) ?_
  refine lv_iconst (v := 1) hx hb dL_law_729 (by decide) ?_
  refine lv_iadd hx hb dL_law_730 ?_
  refine tk_i 1 (by decide) ?_
  refine va_sld hx hb hX hbl hbA hS (show ¬ ((1 : Int32) < 0 ∨ 6 ≤ Int32.toNatClampNeg 1) by decide) dL_law_731 ?_
  refine tk_i x1 ex1 ?_
  have hPc : va_P (dC, dI) vwCl (fw a cy g) _ := hP.sub [0, 1, 2, 3, 4, 5, 6, 7, 8, 9, 10, 11, 12, 13, 14, 15, 16, 17, 18, 19, 20, 21, 22, 23, 24, 25, 26, 27, 28, 29, 30, 31, 32, 33, 34, 35, 36, 37, 38, 39, 40, 41, 42, 43, 44, 45, 46, 47, 48, 49, 50, 51, 52, 53, 54, 55] rfl
  refine tk_pi (va_runV (As := [.int x1]) (rest := []) ⟨hx, hb, hml, hown, hts⟩ (c_X11_why l dC dI cy a g x1) (cwV 1 hts g_L_law_X11_why_99 rfl rfl rfl (by decide +kernel) ⟨Nat.le_of_ble_eq_true rfl, Nat.le_of_ble_eq_true rfl⟩) (pv_pp hC hPc (ci := 11) (q0 := 0) rfl rfl) rfl rfl hl.1 rfl (lv_room (Nat.le_of_ble_eq_true rfl)) dL_law_732 ⟨Nat.le_of_ble_eq_true rfl, Nat.le_of_ble_eq_true rfl⟩) hP hS (fun r_ H locs hw hP hS => ?_)
  rcases hw with ⟨c1268_, rfl⟩ | ⟨c1269_, c1270_, rfl⟩ | ⟨c1271_, c1272_, rfl⟩
  · skip
    refine lv_aload_n hx hb dL_law_735 rfl (lv_at hl 1 rfl) ?_
    refine lv_aload_n hx hb dL_law_736 rfl (lv_at hl 3 rfl) ?_
    refine lv_iload_n hx hb dL_law_737 rfl (lv_at hl 0 rfl) ?_
    refine lv_iconst (v := 1) hx hb dL_law_738 (by decide) ?_
    refine lv_iadd hx hb dL_law_739 ?_
    refine tk_i 1 (by decide) ?_
    refine va_sld hx hb hX hbl hbA hS (show ¬ ((1 : Int32) < 0 ∨ 6 ≤ Int32.toNatClampNeg 1) by decide) dL_law_740 ?_
    refine tk_i x1 ex1 ?_
    have hPc : va_P (dC, dI) vwCl (mw b cy) _ := hP.sub [56, 57, 58, 59, 60, 61, 62, 63] rfl
    have hDc := hD.sub (ws' := mw b cy) [56, 57, 58, 59, 60, 61, 62, 63] (by decide) rfl
    have hFc := va_free (wc := mw b cy) hD hS hA [56, 57, 58, 59, 60, 61, 62, 63] rfl
    refine va_calli (va_runV (As := [.int x1]) (rest := [.int (-1)]) ⟨hx, hb, hml, hown, hts⟩ (c_X12_why l dC dI cy b _ x1) (cwV 1 hts g_L_law_X12_why_102 rfl rfl rfl (by decide +kernel) ⟨Nat.le_of_ble_eq_true rfl, Nat.le_of_ble_eq_true rfl⟩) (pv_ps hC hPc hDc (ci := 12) (q0 := 0) rfl rfl) rfl rfl hl.1 rfl (lv_room (Nat.le_of_ble_eq_true rfl)) dL_law_741 ⟨Nat.le_of_ble_eq_true rfl, Nat.le_of_ble_eq_true rfl⟩) hS (fun q _ h => hFc q h) hFc (fun r_ u t_ H1 locs ht hvm hw hB hz1 hk1 hS => ?_)
    obtain ⟨hP, hD⟩ := va_join (wr := []) (w1 := []) hP hD [56, 57, 58, 59, 60, 61, 62, 63] [] rfl rfl (by decide) (by decide) hk1 hFc va_P0 va_D0
    generalize H1 = H at hP hS ⊢
    have hP : va_P (dC, dI) vwCl ([]) H := hP
    have hD : va_D A ([]) := hD
    rcases hw with ⟨c1273_, rfl⟩ | ⟨c1274_, c1275_, rfl⟩ | ⟨c1276_, c1277_, rfl⟩
    · skip
      refine lv_icmp_eq (tgt := 983) hx hb dL_law_744 (by decide) (fun _ => ?_) (fun c9_ => absurd (by decide) c9_)
      refine lv_iinc (v := 6) (lv' := [(3, .int 6), (2, .ref (b 0)), (1, .ref (a 0)), (0, .ref sc)]) hx hb dL_law_983 hl (k := 0) rfl (by decide) (by decide) rfl (fun ls hl => ?_)
      refine lv_goto (tgt := 18) hx hb dL_law_986 (by decide) ?_
      refine lv_iload_n hx hb dL_law_18 rfl (lv_at hl 0 rfl) ?_
      refine lv_aload_n hx hb dL_law_19 rfl (lv_at hl 3 rfl) ?_
      refine va_slen hx hb hX hbl hbA hS dL_law_20 ?_
      refine tk_i 6 (by decide) ?_
      refine lv_bipush (v := 6) hx hb dL_law_21 (by decide) ?_
      refine lv_isub hx hb dL_law_23 ?_
      refine tk_i 0 (by decide) ?_
      refine lv_icmp_gt (tgt := 989) hx hb dL_law_24 (by decide) (fun _ => ?_) (fun c9_ => absurd (by decide) c9_)
      refine lv_iconst (v := 1) hx hb dL_law_989 (by decide) ?_
      refine va_forget (fun q hq => by have h := hS.2.2 q hq; rw [hAe] at h; exact h) ?_
      refine W.widen (k := 600000) (n := 7302249) (Nat.le_of_ble_eq_true rfl) (Nat.le_of_ble_eq_true rfl) ?_
      exact lw_ret hx hb hr hlocks dL_law_990
    · skip
      exfalso
      have z0_ := tz_lt_r c1268_ (show (1 : Int32).toInt = 1 by decide)
      have z1_ := tz_nlt_r c1274_ (show (1 : Int32).toInt = 1 by decide)
      omega
    · skip
      exfalso
      have z0_ := tz_lt_r c1268_ (show (1 : Int32).toInt = 1 by decide)
      have z1_ := tz_nlt_r c1276_ (show (1 : Int32).toInt = 1 by decide)
      omega
  · skip
    refine lv_aload_n hx hb dL_law_735 rfl (lv_at hl 1 rfl) ?_
    refine lv_aload_n hx hb dL_law_736 rfl (lv_at hl 3 rfl) ?_
    refine lv_iload_n hx hb dL_law_737 rfl (lv_at hl 0 rfl) ?_
    refine lv_iconst (v := 1) hx hb dL_law_738 (by decide) ?_
    refine lv_iadd hx hb dL_law_739 ?_
    refine tk_i 1 (by decide) ?_
    refine va_sld hx hb hX hbl hbA hS (show ¬ ((1 : Int32) < 0 ∨ 6 ≤ Int32.toNatClampNeg 1) by decide) dL_law_740 ?_
    refine tk_i x1 ex1 ?_
    have hPc : va_P (dC, dI) vwCl (mw b cy) _ := hP.sub [56, 57, 58, 59, 60, 61, 62, 63] rfl
    have hDc := hD.sub (ws' := mw b cy) [56, 57, 58, 59, 60, 61, 62, 63] (by decide) rfl
    have hFc := va_free (wc := mw b cy) hD hS hA [56, 57, 58, 59, 60, 61, 62, 63] rfl
    refine va_calli (va_runV (As := [.int x1]) (rest := [.int 1]) ⟨hx, hb, hml, hown, hts⟩ (c_X12_why l dC dI cy b _ x1) (cwV 1 hts g_L_law_X12_why_102 rfl rfl rfl (by decide +kernel) ⟨Nat.le_of_ble_eq_true rfl, Nat.le_of_ble_eq_true rfl⟩) (pv_ps hC hPc hDc (ci := 12) (q0 := 0) rfl rfl) rfl rfl hl.1 rfl (lv_room (Nat.le_of_ble_eq_true rfl)) dL_law_741 ⟨Nat.le_of_ble_eq_true rfl, Nat.le_of_ble_eq_true rfl⟩) hS (fun q _ h => hFc q h) hFc (fun r_ u t_ H1 locs ht hvm hw hB hz1 hk1 hS => ?_)
    obtain ⟨hP, hD⟩ := va_join (wr := []) (w1 := []) hP hD [56, 57, 58, 59, 60, 61, 62, 63] [] rfl rfl (by decide) (by decide) hk1 hFc va_P0 va_D0
    generalize H1 = H at hP hS ⊢
    have hP : va_P (dC, dI) vwCl ([]) H := hP
    have hD : va_D A ([]) := hD
    rcases hw with ⟨c1278_, rfl⟩ | ⟨c1279_, c1280_, rfl⟩ | ⟨c1281_, c1282_, rfl⟩
    · skip
      exfalso
      have z0_ := tz_nlt_r c1269_ (show (1 : Int32).toInt = 1 by decide)
      have z1_ := tz_le_r c1270_ (show (4 : Int32).toInt = 4 by decide)
      have z2_ := tz_lt_r c1278_ (show (1 : Int32).toInt = 1 by decide)
      omega
    · skip
      exfalso
      have z0_ := tz_nlt_r c1269_ (show (1 : Int32).toInt = 1 by decide)
      have z1_ := tz_le_r c1270_ (show (4 : Int32).toInt = 4 by decide)
      have z2_ := tz_lt_l c1280_ (show (4 : Int32).toInt = 4 by decide)
      omega
    · skip
      refine lv_icmp_eq (tgt := 983) hx hb dL_law_744 (by decide) (fun _ => ?_) (fun c9_ => absurd (by decide) c9_)
      refine lv_iinc (v := 6) (lv' := [(3, .int 6), (2, .ref (b 0)), (1, .ref (a 0)), (0, .ref sc)]) hx hb dL_law_983 hl (k := 0) rfl (by decide) (by decide) rfl (fun ls hl => ?_)
      refine lv_goto (tgt := 18) hx hb dL_law_986 (by decide) ?_
      refine lv_iload_n hx hb dL_law_18 rfl (lv_at hl 0 rfl) ?_
      refine lv_aload_n hx hb dL_law_19 rfl (lv_at hl 3 rfl) ?_
      refine va_slen hx hb hX hbl hbA hS dL_law_20 ?_
      refine tk_i 6 (by decide) ?_
      refine lv_bipush (v := 6) hx hb dL_law_21 (by decide) ?_
      refine lv_isub hx hb dL_law_23 ?_
      refine tk_i 0 (by decide) ?_
      refine lv_icmp_gt (tgt := 989) hx hb dL_law_24 (by decide) (fun _ => ?_) (fun c9_ => absurd (by decide) c9_)
      refine lv_iconst (v := 1) hx hb dL_law_989 (by decide) ?_
      refine va_forget (fun q hq => by have h := hS.2.2 q hq; rw [hAe] at h; exact h) ?_
      refine W.widen (k := 600000) (n := 7302249) (Nat.le_of_ble_eq_true rfl) (Nat.le_of_ble_eq_true rfl) ?_
      exact lw_ret hx hb hr hlocks dL_law_990
  · skip
    refine lv_aload_n hx hb dL_law_735 rfl (lv_at hl 1 rfl) ?_
    refine lv_aload_n hx hb dL_law_736 rfl (lv_at hl 3 rfl) ?_
    refine lv_iload_n hx hb dL_law_737 rfl (lv_at hl 0 rfl) ?_
    refine lv_iconst (v := 1) hx hb dL_law_738 (by decide) ?_
    refine lv_iadd hx hb dL_law_739 ?_
    refine tk_i 1 (by decide) ?_
    refine va_sld hx hb hX hbl hbA hS (show ¬ ((1 : Int32) < 0 ∨ 6 ≤ Int32.toNatClampNeg 1) by decide) dL_law_740 ?_
    refine tk_i x1 ex1 ?_
    have hPc : va_P (dC, dI) vwCl (mw b cy) _ := hP.sub [56, 57, 58, 59, 60, 61, 62, 63] rfl
    have hDc := hD.sub (ws' := mw b cy) [56, 57, 58, 59, 60, 61, 62, 63] (by decide) rfl
    have hFc := va_free (wc := mw b cy) hD hS hA [56, 57, 58, 59, 60, 61, 62, 63] rfl
    refine va_calli (va_runV (As := [.int x1]) (rest := [.int (-1)]) ⟨hx, hb, hml, hown, hts⟩ (c_X12_why l dC dI cy b _ x1) (cwV 1 hts g_L_law_X12_why_102 rfl rfl rfl (by decide +kernel) ⟨Nat.le_of_ble_eq_true rfl, Nat.le_of_ble_eq_true rfl⟩) (pv_ps hC hPc hDc (ci := 12) (q0 := 0) rfl rfl) rfl rfl hl.1 rfl (lv_room (Nat.le_of_ble_eq_true rfl)) dL_law_741 ⟨Nat.le_of_ble_eq_true rfl, Nat.le_of_ble_eq_true rfl⟩) hS (fun q _ h => hFc q h) hFc (fun r_ u t_ H1 locs ht hvm hw hB hz1 hk1 hS => ?_)
    obtain ⟨hP, hD⟩ := va_join (wr := []) (w1 := []) hP hD [56, 57, 58, 59, 60, 61, 62, 63] [] rfl rfl (by decide) (by decide) hk1 hFc va_P0 va_D0
    generalize H1 = H at hP hS ⊢
    have hP : va_P (dC, dI) vwCl ([]) H := hP
    have hD : va_D A ([]) := hD
    rcases hw with ⟨c1283_, rfl⟩ | ⟨c1284_, c1285_, rfl⟩ | ⟨c1286_, c1287_, rfl⟩
    · skip
      exfalso
      have z0_ := tz_nlt_r c1271_ (show (1 : Int32).toInt = 1 by decide)
      have z1_ := tz_nle_r c1272_ (show (4 : Int32).toInt = 4 by decide)
      have z2_ := tz_lt_r c1283_ (show (1 : Int32).toInt = 1 by decide)
      omega
    · skip
      refine lv_icmp_eq (tgt := 983) hx hb dL_law_744 (by decide) (fun _ => ?_) (fun c9_ => absurd (by decide) c9_)
      refine lv_iinc (v := 6) (lv' := [(3, .int 6), (2, .ref (b 0)), (1, .ref (a 0)), (0, .ref sc)]) hx hb dL_law_983 hl (k := 0) rfl (by decide) (by decide) rfl (fun ls hl => ?_)
      refine lv_goto (tgt := 18) hx hb dL_law_986 (by decide) ?_
      refine lv_iload_n hx hb dL_law_18 rfl (lv_at hl 0 rfl) ?_
      refine lv_aload_n hx hb dL_law_19 rfl (lv_at hl 3 rfl) ?_
      refine va_slen hx hb hX hbl hbA hS dL_law_20 ?_
      refine tk_i 6 (by decide) ?_
      refine lv_bipush (v := 6) hx hb dL_law_21 (by decide) ?_
      refine lv_isub hx hb dL_law_23 ?_
      refine tk_i 0 (by decide) ?_
      refine lv_icmp_gt (tgt := 989) hx hb dL_law_24 (by decide) (fun _ => ?_) (fun c9_ => absurd (by decide) c9_)
      refine lv_iconst (v := 1) hx hb dL_law_989 (by decide) ?_
      refine va_forget (fun q hq => by have h := hS.2.2 q hq; rw [hAe] at h; exact h) ?_
      refine W.widen (k := 600000) (n := 7302249) (Nat.le_of_ble_eq_true rfl) (Nat.le_of_ble_eq_true rfl) ?_
      exact lw_ret hx hb hr hlocks dL_law_990
    · skip
      exfalso
      have z0_ := tz_nlt_r c1271_ (show (1 : Int32).toInt = 1 by decide)
      have z1_ := tz_nle_r c1272_ (show (4 : Int32).toInt = 4 by decide)
      have z2_ := tz_nlt_l c1287_ (show (4 : Int32).toInt = 4 by decide)
      omega
set_option maxHeartbeats 40000000 in
set_option maxRecDepth 100000 in
theorem lawc_21 {p : Program} {e : Env} {s : State} {m : MethodId} {below : List Frame} {meth : Method} {c : Code} (l : Launch) {sc : Nat} {xs : Nat → Int32} {A : Nat → Prop} {dC : Nat → ClassId} {dI : Nat → Nat → Nat} {cy : Nat → ClassId} {a b : Nat → Nat} {g : Nat → Nat → Option Nat} (hAe : A = fun q => s.heap.size ≤ q) (C0 : lw_At p s m meth c sc 6 xs) (hC : cK dC dI cy s) {H : Heap} {locs : List Loc} {ls : Array Slot} (hP : va_P (dC, dI) vwCl (fw a cy g ++ mw b cy) H) (hD : va_D A (fw a cy g ++ mw b cy)) (hS : va_S A s.heap H locs) (hl : lv_has ls 4 [(3, .int 0), (2, .ref (b 0)), (1, .ref (a 0)), (0, .ref sc)]) : W p l e room_1 s m #[Value.ref sc] below meth c H locs 1000 100000 (lw_Z below #[Value.ref sc] s) (F0 m 749 ls []) := by
  obtain ⟨hx, hb, hr, hml, hown, hts0, hX, hbl, hlocks, -⟩ := C0
  have hown : s.vm.findClass RL = some m.cls := hown
  have hts : ∀ w ∈ v_L_law, w.before #[Value.ref sc] s = true := fun w h => hts0 w (v_L_in w h)
  have hK := hC.1
  have hA : ∀ q : Nat, s.heap.size ≤ q → A q := fun q h => by rw [hAe]; exact h
  have hbA : ¬ A sc := by
    rw [hAe]
    exact Nat.not_le.mpr hbl
  obtain ⟨x0, ex0⟩ : ∃ z : Int32, xs (Int32.toNatClampNeg 0) = z := ⟨_, rfl⟩
  obtain ⟨x1, ex1⟩ : ∃ z : Int32, xs (Int32.toNatClampNeg 1) = z := ⟨_, rfl⟩
  obtain ⟨x2, ex2⟩ : ∃ z : Int32, xs (Int32.toNatClampNeg 2) = z := ⟨_, rfl⟩
  obtain ⟨x3, ex3⟩ : ∃ z : Int32, xs (Int32.toNatClampNeg 3) = z := ⟨_, rfl⟩
  obtain ⟨x4, ex4⟩ : ∃ z : Int32, xs (Int32.toNatClampNeg 4) = z := ⟨_, rfl⟩
  obtain ⟨x5, ex5⟩ : ∃ z : Int32, xs (Int32.toNatClampNeg 5) = z := ⟨_, rfl⟩
  refine lv_aload_n hx hb dL_law_749 rfl (lv_at hl 2 rfl) ?_
  refine lv_aload_n hx hb dL_law_750 rfl (lv_at hl 3 rfl) ?_
  refine lv_iload_n hx hb dL_law_751 rfl (lv_at hl 0 rfl) ?_
  refine lv_iconst (v := 1) hx hb dL_law_752 (by decide) ?_
  refine lv_iadd hx hb dL_law_753 ?_
  refine tk_i 1 (by decide) ?_
  refine va_sld hx hb hX hbl hbA hS (show ¬ ((1 : Int32) < 0 ∨ 6 ≤ Int32.toNatClampNeg 1) by decide) dL_law_754 ?_
  refine tk_i x1 ex1 ?_
  have hPc : va_P (dC, dI) vwCl (fw a cy g) _ := hP.sub [0, 1, 2, 3, 4, 5, 6, 7, 8, 9, 10, 11, 12, 13, 14, 15, 16, 17, 18, 19, 20, 21, 22, 23, 24, 25, 26, 27, 28, 29, 30, 31, 32, 33, 34, 35, 36, 37, 38, 39, 40, 41, 42, 43, 44, 45, 46, 47, 48, 49, 50, 51, 52, 53, 54, 55] rfl
  refine tk_pi (va_runV (As := [.int x1]) (rest := []) ⟨hx, hb, hml, hown, hts⟩ (c_X11_order l dC dI cy a g x1) (cwV 1 hts g_L_law_X11_order_103 rfl rfl rfl (by decide +kernel) ⟨Nat.le_of_ble_eq_true rfl, Nat.le_of_ble_eq_true rfl⟩) (pv_pp hC hPc (ci := 11) (q0 := 0) rfl rfl) rfl rfl hl.1 rfl (lv_room (Nat.le_of_ble_eq_true rfl)) dL_law_755 ⟨Nat.le_of_ble_eq_true rfl, Nat.le_of_ble_eq_true rfl⟩) hP hS (fun r_ H locs hw hP hS => ?_)
  rcases hw with ⟨c1288_, rfl⟩ | ⟨c1289_, c1290_, rfl⟩
  · skip
    refine lv_aload_n hx hb dL_law_758 rfl (lv_at hl 1 rfl) ?_
    refine lv_aload_n hx hb dL_law_759 rfl (lv_at hl 3 rfl) ?_
    refine lv_iload_n hx hb dL_law_760 rfl (lv_at hl 0 rfl) ?_
    refine lv_iconst (v := 1) hx hb dL_law_761 (by decide) ?_
    refine lv_iadd hx hb dL_law_762 ?_
    refine tk_i 1 (by decide) ?_
    refine va_sld hx hb hX hbl hbA hS (show ¬ ((1 : Int32) < 0 ∨ 6 ≤ Int32.toNatClampNeg 1) by decide) dL_law_763 ?_
    refine tk_i x1 ex1 ?_
    have hPc : va_P (dC, dI) vwCl (mw b cy) _ := hP.sub [56, 57, 58, 59, 60, 61, 62, 63] rfl
    have hDc := hD.sub (ws' := mw b cy) [56, 57, 58, 59, 60, 61, 62, 63] (by decide) rfl
    have hFc := va_free (wc := mw b cy) hD hS hA [56, 57, 58, 59, 60, 61, 62, 63] rfl
    refine va_calli (va_runV (As := [.int x1]) (rest := [.int (-1)]) ⟨hx, hb, hml, hown, hts⟩ (c_X12_order l dC dI cy b _ x1) (cwV 1 hts g_L_law_X12_order_106 rfl rfl rfl (by decide +kernel) ⟨Nat.le_of_ble_eq_true rfl, Nat.le_of_ble_eq_true rfl⟩) (pv_ps hC hPc hDc (ci := 12) (q0 := 0) rfl rfl) rfl rfl hl.1 rfl (lv_room (Nat.le_of_ble_eq_true rfl)) dL_law_764 ⟨Nat.le_of_ble_eq_true rfl, Nat.le_of_ble_eq_true rfl⟩) hS (fun q _ h => hFc q h) hFc (fun r_ u t_ H1 locs ht hvm hw hB hz1 hk1 hS => ?_)
    obtain ⟨hP, hD⟩ := va_join (wr := []) (w1 := []) hP hD [56, 57, 58, 59, 60, 61, 62, 63] [] rfl rfl (by decide) (by decide) hk1 hFc va_P0 va_D0
    generalize H1 = H at hP hS ⊢
    have hP : va_P (dC, dI) vwCl ([]) H := hP
    have hD : va_D A ([]) := hD
    rcases hw with ⟨c1291_, rfl⟩ | ⟨c1292_, c1293_, rfl⟩
    · skip
      refine lv_icmp_eq (tgt := 983) hx hb dL_law_767 (by decide) (fun _ => ?_) (fun c9_ => absurd (by decide) c9_)
      refine lv_iinc (v := 6) (lv' := [(3, .int 6), (2, .ref (b 0)), (1, .ref (a 0)), (0, .ref sc)]) hx hb dL_law_983 hl (k := 0) rfl (by decide) (by decide) rfl (fun ls hl => ?_)
      refine lv_goto (tgt := 18) hx hb dL_law_986 (by decide) ?_
      refine lv_iload_n hx hb dL_law_18 rfl (lv_at hl 0 rfl) ?_
      refine lv_aload_n hx hb dL_law_19 rfl (lv_at hl 3 rfl) ?_
      refine va_slen hx hb hX hbl hbA hS dL_law_20 ?_
      refine tk_i 6 (by decide) ?_
      refine lv_bipush (v := 6) hx hb dL_law_21 (by decide) ?_
      refine lv_isub hx hb dL_law_23 ?_
      refine tk_i 0 (by decide) ?_
      refine lv_icmp_gt (tgt := 989) hx hb dL_law_24 (by decide) (fun _ => ?_) (fun c9_ => absurd (by decide) c9_)
      refine lv_iconst (v := 1) hx hb dL_law_989 (by decide) ?_
      refine va_forget (fun q hq => by have h := hS.2.2 q hq; rw [hAe] at h; exact h) ?_
      refine W.widen (k := 600000) (n := 7302249) (Nat.le_of_ble_eq_true rfl) (Nat.le_of_ble_eq_true rfl) ?_
      exact lw_ret hx hb hr hlocks dL_law_990
    · skip
      exfalso
      have z0_ := tz_lt_r c1288_ (show (0 : Int32).toInt = 0 by decide)
      have z1_ := tz_nlt_r c1292_ (show (0 : Int32).toInt = 0 by decide)
      omega
  · skip
    refine lv_aload_n hx hb dL_law_758 rfl (lv_at hl 1 rfl) ?_
    refine lv_aload_n hx hb dL_law_759 rfl (lv_at hl 3 rfl) ?_
    refine lv_iload_n hx hb dL_law_760 rfl (lv_at hl 0 rfl) ?_
    refine lv_iconst (v := 1) hx hb dL_law_761 (by decide) ?_
    refine lv_iadd hx hb dL_law_762 ?_
    refine tk_i 1 (by decide) ?_
    refine va_sld hx hb hX hbl hbA hS (show ¬ ((1 : Int32) < 0 ∨ 6 ≤ Int32.toNatClampNeg 1) by decide) dL_law_763 ?_
    refine tk_i x1 ex1 ?_
    have hPc : va_P (dC, dI) vwCl (mw b cy) _ := hP.sub [56, 57, 58, 59, 60, 61, 62, 63] rfl
    have hDc := hD.sub (ws' := mw b cy) [56, 57, 58, 59, 60, 61, 62, 63] (by decide) rfl
    have hFc := va_free (wc := mw b cy) hD hS hA [56, 57, 58, 59, 60, 61, 62, 63] rfl
    refine va_calli (va_runV (As := [.int x1]) (rest := [.int (-1)]) ⟨hx, hb, hml, hown, hts⟩ (c_X12_order l dC dI cy b _ x1) (cwV 1 hts g_L_law_X12_order_106 rfl rfl rfl (by decide +kernel) ⟨Nat.le_of_ble_eq_true rfl, Nat.le_of_ble_eq_true rfl⟩) (pv_ps hC hPc hDc (ci := 12) (q0 := 0) rfl rfl) rfl rfl hl.1 rfl (lv_room (Nat.le_of_ble_eq_true rfl)) dL_law_764 ⟨Nat.le_of_ble_eq_true rfl, Nat.le_of_ble_eq_true rfl⟩) hS (fun q _ h => hFc q h) hFc (fun r_ u t_ H1 locs ht hvm hw hB hz1 hk1 hS => ?_)
    obtain ⟨hP, hD⟩ := va_join (wr := []) (w1 := []) hP hD [56, 57, 58, 59, 60, 61, 62, 63] [] rfl rfl (by decide) (by decide) hk1 hFc va_P0 va_D0
    generalize H1 = H at hP hS ⊢
    have hP : va_P (dC, dI) vwCl ([]) H := hP
    have hD : va_D A ([]) := hD
    rcases hw with ⟨c1294_, rfl⟩ | ⟨c1295_, c1296_, rfl⟩
    · skip
      exfalso
      have z0_ := tz_nlt_r c1289_ (show (0 : Int32).toInt = 0 by decide)
      have z1_ := tz_le_l c1290_ (show (0 : Int32).toInt = 0 by decide)
      have z2_ := tz_lt_r c1294_ (show (0 : Int32).toInt = 0 by decide)
      omega
    · skip
      refine lv_icmp_eq (tgt := 983) hx hb dL_law_767 (by decide) (fun _ => ?_) (fun c9_ => absurd (by decide) c9_)
      refine lv_iinc (v := 6) (lv' := [(3, .int 6), (2, .ref (b 0)), (1, .ref (a 0)), (0, .ref sc)]) hx hb dL_law_983 hl (k := 0) rfl (by decide) (by decide) rfl (fun ls hl => ?_)
      refine lv_goto (tgt := 18) hx hb dL_law_986 (by decide) ?_
      refine lv_iload_n hx hb dL_law_18 rfl (lv_at hl 0 rfl) ?_
      refine lv_aload_n hx hb dL_law_19 rfl (lv_at hl 3 rfl) ?_
      refine va_slen hx hb hX hbl hbA hS dL_law_20 ?_
      refine tk_i 6 (by decide) ?_
      refine lv_bipush (v := 6) hx hb dL_law_21 (by decide) ?_
      refine lv_isub hx hb dL_law_23 ?_
      refine tk_i 0 (by decide) ?_
      refine lv_icmp_gt (tgt := 989) hx hb dL_law_24 (by decide) (fun _ => ?_) (fun c9_ => absurd (by decide) c9_)
      refine lv_iconst (v := 1) hx hb dL_law_989 (by decide) ?_
      refine va_forget (fun q hq => by have h := hS.2.2 q hq; rw [hAe] at h; exact h) ?_
      refine W.widen (k := 600000) (n := 7302249) (Nat.le_of_ble_eq_true rfl) (Nat.le_of_ble_eq_true rfl) ?_
      exact lw_ret hx hb hr hlocks dL_law_990
set_option maxHeartbeats 40000000 in
set_option maxRecDepth 100000 in
theorem lawc_22 {p : Program} {e : Env} {s : State} {m : MethodId} {below : List Frame} {meth : Method} {c : Code} (l : Launch) {sc : Nat} {xs : Nat → Int32} {A : Nat → Prop} {dC : Nat → ClassId} {dI : Nat → Nat → Nat} {cy : Nat → ClassId} {a b : Nat → Nat} {g : Nat → Nat → Option Nat} (hAe : A = fun q => s.heap.size ≤ q) (C0 : lw_At p s m meth c sc 6 xs) (hC : cK dC dI cy s) {H : Heap} {locs : List Loc} {ls : Array Slot} (hP : va_P (dC, dI) vwCl (fw a cy g ++ mw b cy) H) (hD : va_D A (fw a cy g ++ mw b cy)) (hS : va_S A s.heap H locs) (hl : lv_has ls 4 [(3, .int 0), (2, .ref (b 0)), (1, .ref (a 0)), (0, .ref sc)]) : W p l e room_1 s m #[Value.ref sc] below meth c H locs 1000 100000 (lw_Z below #[Value.ref sc] s) (F0 m 772 ls []) := by
  obtain ⟨hx, hb, hr, hml, hown, hts0, hX, hbl, hlocks, -⟩ := C0
  have hown : s.vm.findClass RL = some m.cls := hown
  have hts : ∀ w ∈ v_L_law, w.before #[Value.ref sc] s = true := fun w h => hts0 w (v_L_in w h)
  have hK := hC.1
  have hA : ∀ q : Nat, s.heap.size ≤ q → A q := fun q h => by rw [hAe]; exact h
  have hbA : ¬ A sc := by
    rw [hAe]
    exact Nat.not_le.mpr hbl
  obtain ⟨x0, ex0⟩ : ∃ z : Int32, xs (Int32.toNatClampNeg 0) = z := ⟨_, rfl⟩
  obtain ⟨x1, ex1⟩ : ∃ z : Int32, xs (Int32.toNatClampNeg 1) = z := ⟨_, rfl⟩
  obtain ⟨x2, ex2⟩ : ∃ z : Int32, xs (Int32.toNatClampNeg 2) = z := ⟨_, rfl⟩
  obtain ⟨x3, ex3⟩ : ∃ z : Int32, xs (Int32.toNatClampNeg 3) = z := ⟨_, rfl⟩
  obtain ⟨x4, ex4⟩ : ∃ z : Int32, xs (Int32.toNatClampNeg 4) = z := ⟨_, rfl⟩
  obtain ⟨x5, ex5⟩ : ∃ z : Int32, xs (Int32.toNatClampNeg 5) = z := ⟨_, rfl⟩
  refine lv_aload_n hx hb dL_law_772 rfl (lv_at hl 2 rfl) ?_
  refine lv_aload_n hx hb dL_law_773 rfl (lv_at hl 3 rfl) ?_
  refine lv_iload_n hx hb dL_law_774 rfl (lv_at hl 0 rfl) ?_
  refine lv_iconst (v := 1) hx hb dL_law_775 (by decide) ?_
  refine lv_iadd hx hb dL_law_776 ?_
  refine tk_i 1 (by decide) ?_
  refine va_sld hx hb hX hbl hbA hS (show ¬ ((1 : Int32) < 0 ∨ 6 ≤ Int32.toNatClampNeg 1) by decide) dL_law_777 ?_
  refine tk_i x1 ex1 ?_
  have hPc : va_P (dC, dI) vwCl (fw a cy g) _ := hP.sub [0, 1, 2, 3, 4, 5, 6, 7, 8, 9, 10, 11, 12, 13, 14, 15, 16, 17, 18, 19, 20, 21, 22, 23, 24, 25, 26, 27, 28, 29, 30, 31, 32, 33, 34, 35, 36, 37, 38, 39, 40, 41, 42, 43, 44, 45, 46, 47, 48, 49, 50, 51, 52, 53, 54, 55] rfl
  refine tk_pi (va_runV (As := [.int x1]) (rest := []) ⟨hx, hb, hml, hown, hts⟩ (c_X11_would l dC dI cy a g x1) (cwV 1 hts g_L_law_X11_would_107 rfl rfl rfl (by decide +kernel) ⟨Nat.le_of_ble_eq_true rfl, Nat.le_of_ble_eq_true rfl⟩) (pv_pp hC hPc (ci := 11) (q0 := 0) rfl rfl) rfl rfl hl.1 rfl (lv_room (Nat.le_of_ble_eq_true rfl)) dL_law_778 ⟨Nat.le_of_ble_eq_true rfl, Nat.le_of_ble_eq_true rfl⟩) hP hS (fun r_ H locs hw hP hS => ?_)
  rcases hw with ⟨c1297_, rfl⟩ | ⟨c1298_, c1299_, rfl⟩ | ⟨c1300_, c1301_, rfl⟩
  · skip
    refine lv_aload_n hx hb dL_law_781 rfl (lv_at hl 1 rfl) ?_
    refine lv_aload_n hx hb dL_law_782 rfl (lv_at hl 3 rfl) ?_
    refine lv_iload_n hx hb dL_law_783 rfl (lv_at hl 0 rfl) ?_
    refine lv_iconst (v := 1) hx hb dL_law_784 (by decide) ?_
    refine lv_iadd hx hb dL_law_785 ?_
    refine tk_i 1 (by decide) ?_
    refine va_sld hx hb hX hbl hbA hS (show ¬ ((1 : Int32) < 0 ∨ 6 ≤ Int32.toNatClampNeg 1) by decide) dL_law_786 ?_
    refine tk_i x1 ex1 ?_
    have hPc : va_P (dC, dI) vwCl (mw b cy) _ := hP.sub [56, 57, 58, 59, 60, 61, 62, 63] rfl
    have hDc := hD.sub (ws' := mw b cy) [56, 57, 58, 59, 60, 61, 62, 63] (by decide) rfl
    have hFc := va_free (wc := mw b cy) hD hS hA [56, 57, 58, 59, 60, 61, 62, 63] rfl
    refine va_calli (va_runV (As := [.int x1]) (rest := [.int (-1)]) ⟨hx, hb, hml, hown, hts⟩ (c_X12_would l dC dI cy b _ x1) (cwV 1 hts g_L_law_X12_would_110 rfl rfl rfl (by decide +kernel) ⟨Nat.le_of_ble_eq_true rfl, Nat.le_of_ble_eq_true rfl⟩) (pv_ps hC hPc hDc (ci := 12) (q0 := 0) rfl rfl) rfl rfl hl.1 rfl (lv_room (Nat.le_of_ble_eq_true rfl)) dL_law_787 ⟨Nat.le_of_ble_eq_true rfl, Nat.le_of_ble_eq_true rfl⟩) hS (fun q _ h => hFc q h) hFc (fun r_ u t_ H1 locs ht hvm hw hB hz1 hk1 hS => ?_)
    obtain ⟨hP, hD⟩ := va_join (wr := []) (w1 := []) hP hD [56, 57, 58, 59, 60, 61, 62, 63] [] rfl rfl (by decide) (by decide) hk1 hFc va_P0 va_D0
    generalize H1 = H at hP hS ⊢
    have hP : va_P (dC, dI) vwCl ([]) H := hP
    have hD : va_D A ([]) := hD
    rcases hw with ⟨c1302_, rfl⟩ | ⟨c1303_, c1304_, rfl⟩ | ⟨c1305_, c1306_, rfl⟩
    · skip
      refine lv_icmp_eq (tgt := 983) hx hb dL_law_790 (by decide) (fun _ => ?_) (fun c9_ => absurd (by decide) c9_)
      refine lv_iinc (v := 6) (lv' := [(3, .int 6), (2, .ref (b 0)), (1, .ref (a 0)), (0, .ref sc)]) hx hb dL_law_983 hl (k := 0) rfl (by decide) (by decide) rfl (fun ls hl => ?_)
      refine lv_goto (tgt := 18) hx hb dL_law_986 (by decide) ?_
      refine lv_iload_n hx hb dL_law_18 rfl (lv_at hl 0 rfl) ?_
      refine lv_aload_n hx hb dL_law_19 rfl (lv_at hl 3 rfl) ?_
      refine va_slen hx hb hX hbl hbA hS dL_law_20 ?_
      refine tk_i 6 (by decide) ?_
      refine lv_bipush (v := 6) hx hb dL_law_21 (by decide) ?_
      refine lv_isub hx hb dL_law_23 ?_
      refine tk_i 0 (by decide) ?_
      refine lv_icmp_gt (tgt := 989) hx hb dL_law_24 (by decide) (fun _ => ?_) (fun c9_ => absurd (by decide) c9_)
      refine lv_iconst (v := 1) hx hb dL_law_989 (by decide) ?_
      refine va_forget (fun q hq => by have h := hS.2.2 q hq; rw [hAe] at h; exact h) ?_
      refine W.widen (k := 600000) (n := 7302249) (Nat.le_of_ble_eq_true rfl) (Nat.le_of_ble_eq_true rfl) ?_
      exact lw_ret hx hb hr hlocks dL_law_990
    · skip
      exfalso
      have z0_ := tz_lt_r c1297_ (show (1 : Int32).toInt = 1 by decide)
      have z1_ := tz_nlt_r c1303_ (show (1 : Int32).toInt = 1 by decide)
      omega
    · skip
      exfalso
      have z0_ := tz_lt_r c1297_ (show (1 : Int32).toInt = 1 by decide)
      have z1_ := tz_nlt_r c1305_ (show (1 : Int32).toInt = 1 by decide)
      omega
  · skip
    refine lv_aload_n hx hb dL_law_781 rfl (lv_at hl 1 rfl) ?_
    refine lv_aload_n hx hb dL_law_782 rfl (lv_at hl 3 rfl) ?_
    refine lv_iload_n hx hb dL_law_783 rfl (lv_at hl 0 rfl) ?_
    refine lv_iconst (v := 1) hx hb dL_law_784 (by decide) ?_
    refine lv_iadd hx hb dL_law_785 ?_
    refine tk_i 1 (by decide) ?_
    refine va_sld hx hb hX hbl hbA hS (show ¬ ((1 : Int32) < 0 ∨ 6 ≤ Int32.toNatClampNeg 1) by decide) dL_law_786 ?_
    refine tk_i x1 ex1 ?_
    have hPc : va_P (dC, dI) vwCl (mw b cy) _ := hP.sub [56, 57, 58, 59, 60, 61, 62, 63] rfl
    have hDc := hD.sub (ws' := mw b cy) [56, 57, 58, 59, 60, 61, 62, 63] (by decide) rfl
    have hFc := va_free (wc := mw b cy) hD hS hA [56, 57, 58, 59, 60, 61, 62, 63] rfl
    refine va_calli (va_runV (As := [.int x1]) (rest := [.int (-4)]) ⟨hx, hb, hml, hown, hts⟩ (c_X12_would l dC dI cy b _ x1) (cwV 1 hts g_L_law_X12_would_110 rfl rfl rfl (by decide +kernel) ⟨Nat.le_of_ble_eq_true rfl, Nat.le_of_ble_eq_true rfl⟩) (pv_ps hC hPc hDc (ci := 12) (q0 := 0) rfl rfl) rfl rfl hl.1 rfl (lv_room (Nat.le_of_ble_eq_true rfl)) dL_law_787 ⟨Nat.le_of_ble_eq_true rfl, Nat.le_of_ble_eq_true rfl⟩) hS (fun q _ h => hFc q h) hFc (fun r_ u t_ H1 locs ht hvm hw hB hz1 hk1 hS => ?_)
    obtain ⟨hP, hD⟩ := va_join (wr := []) (w1 := []) hP hD [56, 57, 58, 59, 60, 61, 62, 63] [] rfl rfl (by decide) (by decide) hk1 hFc va_P0 va_D0
    generalize H1 = H at hP hS ⊢
    have hP : va_P (dC, dI) vwCl ([]) H := hP
    have hD : va_D A ([]) := hD
    rcases hw with ⟨c1307_, rfl⟩ | ⟨c1308_, c1309_, rfl⟩ | ⟨c1310_, c1311_, rfl⟩
    · skip
      exfalso
      have z0_ := tz_nlt_r c1298_ (show (1 : Int32).toInt = 1 by decide)
      have z1_ := tz_le_r c1299_ (show (4 : Int32).toInt = 4 by decide)
      have z2_ := tz_lt_r c1307_ (show (1 : Int32).toInt = 1 by decide)
      omega
    · skip
      exfalso
      have z0_ := tz_nlt_r c1298_ (show (1 : Int32).toInt = 1 by decide)
      have z1_ := tz_le_r c1299_ (show (4 : Int32).toInt = 4 by decide)
      have z2_ := tz_lt_l c1309_ (show (4 : Int32).toInt = 4 by decide)
      omega
    · skip
      refine lv_icmp_eq (tgt := 983) hx hb dL_law_790 (by decide) (fun _ => ?_) (fun c9_ => absurd (by decide) c9_)
      refine lv_iinc (v := 6) (lv' := [(3, .int 6), (2, .ref (b 0)), (1, .ref (a 0)), (0, .ref sc)]) hx hb dL_law_983 hl (k := 0) rfl (by decide) (by decide) rfl (fun ls hl => ?_)
      refine lv_goto (tgt := 18) hx hb dL_law_986 (by decide) ?_
      refine lv_iload_n hx hb dL_law_18 rfl (lv_at hl 0 rfl) ?_
      refine lv_aload_n hx hb dL_law_19 rfl (lv_at hl 3 rfl) ?_
      refine va_slen hx hb hX hbl hbA hS dL_law_20 ?_
      refine tk_i 6 (by decide) ?_
      refine lv_bipush (v := 6) hx hb dL_law_21 (by decide) ?_
      refine lv_isub hx hb dL_law_23 ?_
      refine tk_i 0 (by decide) ?_
      refine lv_icmp_gt (tgt := 989) hx hb dL_law_24 (by decide) (fun _ => ?_) (fun c9_ => absurd (by decide) c9_)
      refine lv_iconst (v := 1) hx hb dL_law_989 (by decide) ?_
      refine va_forget (fun q hq => by have h := hS.2.2 q hq; rw [hAe] at h; exact h) ?_
      refine W.widen (k := 600000) (n := 7302249) (Nat.le_of_ble_eq_true rfl) (Nat.le_of_ble_eq_true rfl) ?_
      exact lw_ret hx hb hr hlocks dL_law_990
  · skip
    refine lv_aload_n hx hb dL_law_781 rfl (lv_at hl 1 rfl) ?_
    refine lv_aload_n hx hb dL_law_782 rfl (lv_at hl 3 rfl) ?_
    refine lv_iload_n hx hb dL_law_783 rfl (lv_at hl 0 rfl) ?_
    refine lv_iconst (v := 1) hx hb dL_law_784 (by decide) ?_
    refine lv_iadd hx hb dL_law_785 ?_
    refine tk_i 1 (by decide) ?_
    refine va_sld hx hb hX hbl hbA hS (show ¬ ((1 : Int32) < 0 ∨ 6 ≤ Int32.toNatClampNeg 1) by decide) dL_law_786 ?_
    refine tk_i x1 ex1 ?_
    have hPc : va_P (dC, dI) vwCl (mw b cy) _ := hP.sub [56, 57, 58, 59, 60, 61, 62, 63] rfl
    have hDc := hD.sub (ws' := mw b cy) [56, 57, 58, 59, 60, 61, 62, 63] (by decide) rfl
    have hFc := va_free (wc := mw b cy) hD hS hA [56, 57, 58, 59, 60, 61, 62, 63] rfl
    refine va_calli (va_runV (As := [.int x1]) (rest := [.int (-1)]) ⟨hx, hb, hml, hown, hts⟩ (c_X12_would l dC dI cy b _ x1) (cwV 1 hts g_L_law_X12_would_110 rfl rfl rfl (by decide +kernel) ⟨Nat.le_of_ble_eq_true rfl, Nat.le_of_ble_eq_true rfl⟩) (pv_ps hC hPc hDc (ci := 12) (q0 := 0) rfl rfl) rfl rfl hl.1 rfl (lv_room (Nat.le_of_ble_eq_true rfl)) dL_law_787 ⟨Nat.le_of_ble_eq_true rfl, Nat.le_of_ble_eq_true rfl⟩) hS (fun q _ h => hFc q h) hFc (fun r_ u t_ H1 locs ht hvm hw hB hz1 hk1 hS => ?_)
    obtain ⟨hP, hD⟩ := va_join (wr := []) (w1 := []) hP hD [56, 57, 58, 59, 60, 61, 62, 63] [] rfl rfl (by decide) (by decide) hk1 hFc va_P0 va_D0
    generalize H1 = H at hP hS ⊢
    have hP : va_P (dC, dI) vwCl ([]) H := hP
    have hD : va_D A ([]) := hD
    rcases hw with ⟨c1312_, rfl⟩ | ⟨c1313_, c1314_, rfl⟩ | ⟨c1315_, c1316_, rfl⟩
    · skip
      exfalso
      have z0_ := tz_nlt_r c1300_ (show (1 : Int32).toInt = 1 by decide)
      have z1_ := tz_nle_r c1301_ (show (4 : Int32).toInt = 4 by decide)
      have z2_ := tz_lt_r c1312_ (show (1 : Int32).toInt = 1 by decide)
      omega
    · skip
      refine lv_icmp_eq (tgt := 983) hx hb dL_law_790 (by decide) (fun _ => ?_) (fun c9_ => absurd (by decide) c9_)
      refine lv_iinc (v := 6) (lv' := [(3, .int 6), (2, .ref (b 0)), (1, .ref (a 0)), (0, .ref sc)]) hx hb dL_law_983 hl (k := 0) rfl (by decide) (by decide) rfl (fun ls hl => ?_)
      refine lv_goto (tgt := 18) hx hb dL_law_986 (by decide) ?_
      refine lv_iload_n hx hb dL_law_18 rfl (lv_at hl 0 rfl) ?_
      refine lv_aload_n hx hb dL_law_19 rfl (lv_at hl 3 rfl) ?_
      refine va_slen hx hb hX hbl hbA hS dL_law_20 ?_
      refine tk_i 6 (by decide) ?_
      refine lv_bipush (v := 6) hx hb dL_law_21 (by decide) ?_
      refine lv_isub hx hb dL_law_23 ?_
      refine tk_i 0 (by decide) ?_
      refine lv_icmp_gt (tgt := 989) hx hb dL_law_24 (by decide) (fun _ => ?_) (fun c9_ => absurd (by decide) c9_)
      refine lv_iconst (v := 1) hx hb dL_law_989 (by decide) ?_
      refine va_forget (fun q hq => by have h := hS.2.2 q hq; rw [hAe] at h; exact h) ?_
      refine W.widen (k := 600000) (n := 7302249) (Nat.le_of_ble_eq_true rfl) (Nat.le_of_ble_eq_true rfl) ?_
      exact lw_ret hx hb hr hlocks dL_law_990
    · skip
      exfalso
      have z0_ := tz_nlt_r c1300_ (show (1 : Int32).toInt = 1 by decide)
      have z1_ := tz_nle_r c1301_ (show (4 : Int32).toInt = 4 by decide)
      have z2_ := tz_nlt_l c1316_ (show (4 : Int32).toInt = 4 by decide)
      omega
