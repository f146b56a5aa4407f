set_option maxHeartbeats 40000000 in
set_option maxRecDepth 100000 in
theorem lawc_24 {p : Program} {e : Env} {s : State} {m : MethodId} {below : List Frame} {meth : Method} {c : Code} (l : Launch) {sc : Nat} {xs : Nat → Int32} {A : Nat → Prop} {dC : Nat → ClassId} {dI : Nat → Nat → Nat} {cy : Nat → ClassId} {a b : Nat → Nat} {g : Nat → Nat → Option Nat} (hAe : A = fun q => s.heap.size ≤ q) (C0 : lw_At p s m meth c sc 6 xs) (hC : cK dC dI cy s) {H : Heap} {locs : List Loc} {ls : Array Slot} (hP : va_P (dC, dI) vwCl (fw a cy g ++ mw b cy) H) (hD : va_D A (fw a cy g ++ mw b cy)) (hS : va_S A s.heap H locs) (hl : lv_has ls 4 [(3, .int 0), (2, .ref (b 0)), (1, .ref (a 0)), (0, .ref sc)]) : W p l e room_1 s m #[Value.ref sc] below meth c H locs 1000 100000 (lw_Z below #[Value.ref sc] s) (F0 m 858 ls []) := by
  obtain ⟨hx, hb, hr, hml, hown, hts0, hX, hbl, hlocks, -⟩ := C0
  have hown : s.vm.findClass RL = some m.cls := hown
  have hts : ∀ w ∈ v_L_law, w.before #[Value.ref sc] s = true := fun w h => hts0 w (v_L_in w h)
  have hK := hC.1
  have hA : ∀ q : Nat, s.heap.size ≤ q → A q := fun q h => by rw [hAe]; exact h
  have hbA : ¬ A sc := by
    rw [hAe]
    exact Nat.not_le.mpr hbl
  obtain ⟨x0, ex0⟩ : ∃ z : Int32, xs (Int32.toNatClampNeg 0) = z := ⟨_, rfl⟩
  obtain ⟨x1, ex1⟩ : ∃ z : Int32, xs (Int32.toNatClampNeg 1) = z := ⟨_, rfl⟩
  obtain ⟨x2, ex2⟩ : ∃ z : Int32, xs (Int32.toNatClampNeg 2) = z := ⟨_, rfl⟩
  obtain ⟨x3, ex3⟩ : ∃ z : Int32, xs (Int32.toNatClampNeg 3) = z := ⟨_, rfl⟩
  obtain ⟨x4, ex4⟩ : ∃ z : Int32, xs (Int32.toNatClampNeg 4) = z := ⟨_, rfl⟩
  obtain ⟨x5, ex5⟩ : ∃ z : Int32, xs (Int32.toNatClampNeg 5) = z := ⟨_, rfl⟩
  refine lv_aload_n hx hb dL_law_858 rfl (lv_at hl 2 rfl) ?_
  refine lv_aload_n hx hb dL_law_859 rfl (lv_at hl 3 rfl) ?_
  refine lv_iload_n hx hb dL_law_860 rfl (lv_at hl 0 rfl) ?_
  refine lv_iconst (v := 1) hx hb dL_law_861 (by decide) ?_
  refine lv_iadd hx hb dL_law_862 ?_
  refine tk_i 1 (by decide) ?_
  refine va_sld hx hb hX hbl hbA hS (show ¬ ((1 : Int32) < 0 ∨ 6 ≤ Int32.toNatClampNeg 1) by decide) dL_law_863 ?_
  refine tk_i x1 ex1 ?_
  have hPc : va_P (dC, dI) vwCl (fw a cy g) _ := hP.sub [0, 1, 2, 3, 4, 5, 6, 7, 8, 9, 10, 11, 12, 13, 14, 15, 16, 17, 18, 19, 20, 21, 22, 23, 24, 25, 26, 27, 28, 29, 30, 31, 32, 33, 34, 35, 36, 37, 38, 39, 40, 41, 42, 43, 44, 45, 46, 47, 48, 49, 50, 51, 52, 53, 54, 55] rfl
  refine tk_pi (va_runV (As := [.int x1]) (rest := []) ⟨hx, hb, hml, hown, hts⟩ (c_X11_error l dC dI cy a g x1) (cwV 1 hts g_L_law_X11_error_115 rfl rfl rfl (by decide +kernel) ⟨Nat.le_of_ble_eq_true rfl, Nat.le_of_ble_eq_true rfl⟩) (pv_pp hC hPc (ci := 11) (q0 := 0) rfl rfl) rfl rfl hl.1 rfl (lv_room (Nat.le_of_ble_eq_true rfl)) dL_law_864 ⟨Nat.le_of_ble_eq_true rfl, Nat.le_of_ble_eq_true rfl⟩) hP hS (fun r_ H locs hw hP hS => ?_)
  rcases hw with ⟨c3942_, c3943_, rfl⟩ | ⟨c3944_, c3945_, c3946_, rfl⟩ | ⟨c3947_, c3948_, c3949_, c3950_, rfl⟩ | ⟨c3951_, c3952_, rfl⟩
  · skip
    refine lv_aload_n hx hb dL_law_867 rfl (lv_at hl 1 rfl) ?_
    refine lv_aload_n hx hb dL_law_868 rfl (lv_at hl 3 rfl) ?_
    refine lv_iload_n hx hb dL_law_869 rfl (lv_at hl 0 rfl) ?_
    refine lv_iconst (v := 1) hx hb dL_law_870 (by decide) ?_
    refine lv_iadd hx hb dL_law_871 ?_
    refine tk_i 1 (by decide) ?_
    refine va_sld hx hb hX hbl hbA hS (show ¬ ((1 : Int32) < 0 ∨ 6 ≤ Int32.toNatClampNeg 1) by decide) dL_law_872 ?_
    refine tk_i x1 ex1 ?_
    have hPc : va_P (dC, dI) vwCl (mw b cy) _ := hP.sub [56, 57, 58, 59, 60, 61, 62, 63] rfl
    have hDc := hD.sub (ws' := mw b cy) [56, 57, 58, 59, 60, 61, 62, 63] (by decide) rfl
    have hFc := va_free (wc := mw b cy) hD hS hA [56, 57, 58, 59, 60, 61, 62, 63] rfl
    refine va_calli (va_runV (As := [.int x1]) (rest := [.int (-1)]) ⟨hx, hb, hml, hown, hts⟩ (c_X12_error l dC dI cy b _ x1) (cwV 1 hts g_L_law_X12_error_118 rfl rfl rfl (by decide +kernel) ⟨Nat.le_of_ble_eq_true rfl, Nat.le_of_ble_eq_true rfl⟩) (pv_ps hC hPc hDc (ci := 12) (q0 := 0) rfl rfl) rfl rfl hl.1 rfl (lv_room (Nat.le_of_ble_eq_true rfl)) dL_law_873 ⟨Nat.le_of_ble_eq_true rfl, Nat.le_of_ble_eq_true rfl⟩) hS (fun q _ h => hFc q h) hFc (fun r_ u t_ H1 locs ht hvm hw hB hz1 hk1 hS => ?_)
    obtain ⟨hP, hD⟩ := va_join (wr := []) (w1 := []) hP hD [56, 57, 58, 59, 60, 61, 62, 63] [] rfl rfl (by decide) (by decide) hk1 hFc va_P0 va_D0
    generalize H1 = H at hP hS ⊢
    have hP : va_P (dC, dI) vwCl ([]) H := hP
    have hD : va_D A ([]) := hD
    rcases hw with ⟨c3953_, rfl⟩ | ⟨c3954_, rfl⟩ | ⟨c3955_, rfl⟩ | ⟨c3956_, c3957_, c3958_, c3959_, rfl⟩ | ⟨c3960_, c3961_, c3962_, c3963_, c3964_, rfl⟩
    · skip
      exfalso
      have z0_ := tz_lt_r c3942_ (show (0 : Int32).toInt = 0 by decide)
      have z1_ := tz_lt_r c3943_ (show (10 : Int32).toInt = 10 by decide)
      have z2_ := tz_eq_r c3953_ (show (0 : Int32).toInt = 0 by decide)
      omega
    · skip
      exfalso
      have z0_ := tz_lt_r c3942_ (show (0 : Int32).toInt = 0 by decide)
      have z1_ := tz_lt_r c3943_ (show (10 : Int32).toInt = 10 by decide)
      have z2_ := tz_eq_r c3954_ (show (1 : Int32).toInt = 1 by decide)
      omega
    · skip
      exfalso
      have z0_ := tz_lt_r c3942_ (show (0 : Int32).toInt = 0 by decide)
      have z1_ := tz_lt_r c3943_ (show (10 : Int32).toInt = 10 by decide)
      have z2_ := tz_eq_r c3955_ (show (2 : Int32).toInt = 2 by decide)
      omega
    · skip
      refine lv_icmp_eq (tgt := 983) hx hb dL_law_876 (by decide) (fun _ => ?_) (fun c9_ => absurd (by decide) c9_)
      refine lv_iinc (v := 6) (lv' := [(3, .int 6), (2, .ref (b 0)), (1, .ref (a 0)), (0, .ref sc)]) hx hb dL_law_983 hl (k := 0) rfl (by decide) (by decide) rfl (fun ls hl => ?_)
      refine lv_goto (tgt := 18) hx hb dL_law_986 (by decide) ?_
      refine lv_iload_n hx hb dL_law_18 rfl (lv_at hl 0 rfl) ?_
      refine lv_aload_n hx hb dL_law_19 rfl (lv_at hl 3 rfl) ?_
      refine va_slen hx hb hX hbl hbA hS dL_law_20 ?_
      refine tk_i 6 (by decide) ?_
      refine lv_bipush (v := 6) hx hb dL_law_21 (by decide) ?_
      refine lv_isub hx hb dL_law_23 ?_
      refine tk_i 0 (by decide) ?_
      refine lv_icmp_gt (tgt := 989) hx hb dL_law_24 (by decide) (fun _ => ?_) (fun c9_ => absurd (by decide) c9_)
      refine lv_iconst (v := 1) hx hb dL_law_989 (by decide) ?_
      refine va_forget (fun q hq => by have h := hS.2.2 q hq; rw [hAe] at h; exact h) ?_
      refine W.widen (k := 600000) (n := 7302249) (Nat.le_of_ble_eq_true rfl) (Nat.le_of_ble_eq_true rfl) ?_
      exact lw_ret hx hb hr hlocks dL_law_990
    · skip
      exfalso
      have z0_ := tz_lt_r c3942_ (show (0 : Int32).toInt = 0 by decide)
      have z1_ := tz_lt_r c3943_ (show (10 : Int32).toInt = 10 by decide)
      have z2_ := tz_neq_r c3960_ (show (0 : Int32).toInt = 0 by decide)
      have z3_ := tz_neq_r c3961_ (show (1 : Int32).toInt = 1 by decide)
      have z4_ := tz_neq_r c3962_ (show (2 : Int32).toInt = 2 by decide)
      have z5_ := tz_nlt_r c3963_ (show (10 : Int32).toInt = 10 by decide)
      omega
  · skip
    refine lv_aload_n hx hb dL_law_867 rfl (lv_at hl 1 rfl) ?_
    refine lv_aload_n hx hb dL_law_868 rfl (lv_at hl 3 rfl) ?_
    refine lv_iload_n hx hb dL_law_869 rfl (lv_at hl 0 rfl) ?_
    refine lv_iconst (v := 1) hx hb dL_law_870 (by decide) ?_
    refine lv_iadd hx hb dL_law_871 ?_
    refine tk_i 1 (by decide) ?_
    refine va_sld hx hb hX hbl hbA hS (show ¬ ((1 : Int32) < 0 ∨ 6 ≤ Int32.toNatClampNeg 1) by decide) dL_law_872 ?_
    refine tk_i x1 ex1 ?_
    have hPc : va_P (dC, dI) vwCl (mw b cy) _ := hP.sub [56, 57, 58, 59, 60, 61, 62, 63] rfl
    have hDc := hD.sub (ws' := mw b cy) [56, 57, 58, 59, 60, 61, 62, 63] (by decide) rfl
    have hFc := va_free (wc := mw b cy) hD hS hA [56, 57, 58, 59, 60, 61, 62, 63] rfl
    refine va_calli (va_runV (As := [.int x1]) (rest := [.int (-1)]) ⟨hx, hb, hml, hown, hts⟩ (c_X12_error l dC dI cy b _ x1) (cwV 1 hts g_L_law_X12_error_118 rfl rfl rfl (by decide +kernel) ⟨Nat.le_of_ble_eq_true rfl, Nat.le_of_ble_eq_true rfl⟩) (pv_ps hC hPc hDc (ci := 12) (q0 := 0) rfl rfl) rfl rfl hl.1 rfl (lv_room (Nat.le_of_ble_eq_true rfl)) dL_law_873 ⟨Nat.le_of_ble_eq_true rfl, Nat.le_of_ble_eq_true rfl⟩) hS (fun q _ h => hFc q h) hFc (fun r_ u t_ H1 locs ht hvm hw hB hz1 hk1 hS => ?_)
    obtain ⟨hP, hD⟩ := va_join (wr := []) (w1 := []) hP hD [56, 57, 58, 59, 60, 61, 62, 63] [] rfl rfl (by decide) (by decide) hk1 hFc va_P0 va_D0
    generalize H1 = H at hP hS ⊢
    have hP : va_P (dC, dI) vwCl ([]) H := hP
    have hD : va_D A ([]) := hD
    rcases hw with ⟨c3965_, rfl⟩ | ⟨c3966_, rfl⟩ | ⟨c3967_, rfl⟩ | ⟨c3968_, c3969_, c3970_, c3971_, rfl⟩ | ⟨c3972_, c3973_, c3974_, c3975_, c3976_, rfl⟩
    · skip
      exfalso
      have z0_ := tz_nlt_r c3944_ (show (0 : Int32).toInt = 0 by decide)
      have z1_ := tz_le_l c3945_ (show (3 : Int32).toInt = 3 by decide)
      have z2_ := tz_lt_r c3946_ (show (10 : Int32).toInt = 10 by decide)
      have z3_ := tz_eq_r c3965_ (show (0 : Int32).toInt = 0 by decide)
      omega
    · skip
      exfalso
      have z0_ := tz_nlt_r c3944_ (show (0 : Int32).toInt = 0 by decide)
      have z1_ := tz_le_l c3945_ (show (3 : Int32).toInt = 3 by decide)
      have z2_ := tz_lt_r c3946_ (show (10 : Int32).toInt = 10 by decide)
      have z3_ := tz_eq_r c3966_ (show (1 : Int32).toInt = 1 by decide)
      omega
    · skip
      exfalso
      have z0_ := tz_nlt_r c3944_ (show (0 : Int32).toInt = 0 by decide)
      have z1_ := tz_le_l c3945_ (show (3 : Int32).toInt = 3 by decide)
      have z2_ := tz_lt_r c3946_ (show (10 : Int32).toInt = 10 by decide)
      have z3_ := tz_eq_r c3967_ (show (2 : Int32).toInt = 2 by decide)
      omega
    · skip
      refine lv_icmp_eq (tgt := 983) hx hb dL_law_876 (by decide) (fun _ => ?_) (fun c9_ => absurd (by decide) c9_)
      refine lv_iinc (v := 6) (lv' := [(3, .int 6), (2, .ref (b 0)), (1, .ref (a 0)), (0, .ref sc)]) hx hb dL_law_983 hl (k := 0) rfl (by decide) (by decide) rfl (fun ls hl => ?_)
      refine lv_goto (tgt := 18) hx hb dL_law_986 (by decide) ?_
      refine lv_iload_n hx hb dL_law_18 rfl (lv_at hl 0 rfl) ?_
      refine lv_aload_n hx hb dL_law_19 rfl (lv_at hl 3 rfl) ?_
      refine va_slen hx hb hX hbl hbA hS dL_law_20 ?_
      refine tk_i 6 (by decide) ?_
      refine lv_bipush (v := 6) hx hb dL_law_21 (by decide) ?_
      refine lv_isub hx hb dL_law_23 ?_
      refine tk_i 0 (by decide) ?_
      refine lv_icmp_gt (tgt := 989) hx hb dL_law_24 (by decide) (fun _ => ?_) (fun c9_ => absurd (by decide) c9_)
      refine lv_iconst (v := 1) hx hb dL_law_989 (by decide) ?_
      refine va_forget (fun q hq => by have h := hS.2.2 q hq; rw [hAe] at h; exact h) ?_
      refine W.widen (k := 600000) (n := 7302249) (Nat.le_of_ble_eq_true rfl) (Nat.le_of_ble_eq_true rfl) ?_
      exact lw_ret hx hb hr hlocks dL_law_990
    · skip
      exfalso
      have z0_ := tz_nlt_r c3944_ (show (0 : Int32).toInt = 0 by decide)
      have z1_ := tz_le_l c3945_ (show (3 : Int32).toInt = 3 by decide)
      have z2_ := tz_lt_r c3946_ (show (10 : Int32).toInt = 10 by decide)
      have z3_ := tz_neq_r c3972_ (show (0 : Int32).toInt = 0 by decide)
      have z4_ := tz_neq_r c3973_ (show (1 : Int32).toInt = 1 by decide)
      have z5_ := tz_neq_r c3974_ (show (2 : Int32).toInt = 2 by decide)
      have z6_ := tz_nlt_r c3975_ (show (10 : Int32).toInt = 10 by decide)
      omega
  · skip
    refine lv_aload_n hx hb dL_law_867 rfl (lv_at hl 1 rfl) ?_
    refine lv_aload_n hx hb dL_law_868 rfl (lv_at hl 3 rfl) ?_
    refine lv_iload_n hx hb dL_law_869 rfl (lv_at hl 0 rfl) ?_
    refine lv_iconst (v := 1) hx hb dL_law_870 (by decide) ?_
    refine lv_iadd hx hb dL_law_871 ?_
    refine tk_i 1 (by decide) ?_
    refine va_sld hx hb hX hbl hbA hS (show ¬ ((1 : Int32) < 0 ∨ 6 ≤ Int32.toNatClampNeg 1) by decide) dL_law_872 ?_
    refine tk_i x1 ex1 ?_
    have hPc : va_P (dC, dI) vwCl (mw b cy) _ := hP.sub [56, 57, 58, 59, 60, 61, 62, 63] rfl
    have hDc := hD.sub (ws' := mw b cy) [56, 57, 58, 59, 60, 61, 62, 63] (by decide) rfl
    have hFc := va_free (wc := mw b cy) hD hS hA [56, 57, 58, 59, 60, 61, 62, 63] rfl
    refine va_calli (va_runV (As := [.int x1]) (rest := [.int (-1)]) ⟨hx, hb, hml, hown, hts⟩ (c_X12_error l dC dI cy b _ x1) (cwV 1 hts g_L_law_X12_error_118 rfl rfl rfl (by decide +kernel) ⟨Nat.le_of_ble_eq_true rfl, Nat.le_of_ble_eq_true rfl⟩) (pv_ps hC hPc hDc (ci := 12) (q0 := 0) rfl rfl) rfl rfl hl.1 rfl (lv_room (Nat.le_of_ble_eq_true rfl)) dL_law_873 ⟨Nat.le_of_ble_eq_true rfl, Nat.le_of_ble_eq_true rfl⟩) hS (fun q _ h => hFc q h) hFc (fun r_ u t_ H1 locs ht hvm hw hB hz1 hk1 hS => ?_)
    obtain ⟨hP, hD⟩ := va_join (wr := []) (w1 := []) hP hD [56, 57, 58, 59, 60, 61, 62, 63] [] rfl rfl (by decide) (by decide) hk1 hFc va_P0 va_D0
    generalize H1 = H at hP hS ⊢
    have hP : va_P (dC, dI) vwCl ([]) H := hP
    have hD : va_D A ([]) := hD
    rcases hw with ⟨c3977_, rfl⟩ | ⟨c3978_, rfl⟩ | ⟨c3979_, rfl⟩ | ⟨c3980_, c3981_, c3982_, c3983_, rfl⟩ | ⟨c3984_, c3985_, c3986_, c3987_, c3988_, rfl⟩
    · skip
      exfalso
      have z0_ := tz_nlt_r c3947_ (show (0 : Int32).toInt = 0 by decide)
      have z1_ := tz_le_l c3948_ (show (3 : Int32).toInt = 3 by decide)
      have z2_ := tz_nlt_r c3949_ (show (10 : Int32).toInt = 10 by decide)
      have z3_ := tz_le_l c3950_ (show (10 : Int32).toInt = 10 by decide)
      have z4_ := tz_eq_r c3977_ (show (0 : Int32).toInt = 0 by decide)
      omega
    · skip
      exfalso
      have z0_ := tz_nlt_r c3947_ (show (0 : Int32).toInt = 0 by decide)
      have z1_ := tz_le_l c3948_ (show (3 : Int32).toInt = 3 by decide)
      have z2_ := tz_nlt_r c3949_ (show (10 : Int32).toInt = 10 by decide)
      have z3_ := tz_le_l c3950_ (show (10 : Int32).toInt = 10 by decide)
      have z4_ := tz_eq_r c3978_ (show (1 : Int32).toInt = 1 by decide)
      omega
    · skip
      exfalso
      have z0_ := tz_nlt_r c3947_ (show (0 : Int32).toInt = 0 by decide)
      have z1_ := tz_le_l c3948_ (show (3 : Int32).toInt = 3 by decide)
      have z2_ := tz_nlt_r c3949_ (show (10 : Int32).toInt = 10 by decide)
      have z3_ := tz_le_l c3950_ (show (10 : Int32).toInt = 10 by decide)
      have z4_ := tz_eq_r c3979_ (show (2 : Int32).toInt = 2 by decide)
      omega
    · skip
      exfalso
      have z0_ := tz_nlt_r c3947_ (show (0 : Int32).toInt = 0 by decide)
      have z1_ := tz_le_l c3948_ (show (3 : Int32).toInt = 3 by decide)
      have z2_ := tz_nlt_r c3949_ (show (10 : Int32).toInt = 10 by decide)
      have z3_ := tz_le_l c3950_ (show (10 : Int32).toInt = 10 by decide)
      have z4_ := tz_neq_r c3980_ (show (0 : Int32).toInt = 0 by decide)
      have z5_ := tz_neq_r c3981_ (show (1 : Int32).toInt = 1 by decide)
      have z6_ := tz_neq_r c3982_ (show (2 : Int32).toInt = 2 by decide)
      have z7_ := tz_lt_r c3983_ (show (10 : Int32).toInt = 10 by decide)
      omega
    · skip
      refine lv_icmp_eq (tgt := 983) hx hb dL_law_876 (by decide) (fun _ => ?_) (fun c9_ => absurd (by decide) c9_)
      refine lv_iinc (v := 6) (lv' := [(3, .int 6), (2, .ref (b 0)), (1, .ref (a 0)), (0, .ref sc)]) hx hb dL_law_983 hl (k := 0) rfl (by decide) (by decide) rfl (fun ls hl => ?_)
      refine lv_goto (tgt := 18) hx hb dL_law_986 (by decide) ?_
      refine lv_iload_n hx hb dL_law_18 rfl (lv_at hl 0 rfl) ?_
      refine lv_aload_n hx hb dL_law_19 rfl (lv_at hl 3 rfl) ?_
      refine va_slen hx hb hX hbl hbA hS dL_law_20 ?_
      refine tk_i 6 (by decide) ?_
      refine lv_bipush (v := 6) hx hb dL_law_21 (by decide) ?_
      refine lv_isub hx hb dL_law_23 ?_
      refine tk_i 0 (by decide) ?_
      refine lv_icmp_gt (tgt := 989) hx hb dL_law_24 (by decide) (fun _ => ?_) (fun c9_ => absurd (by decide) c9_)
      refine lv_iconst (v := 1) hx hb dL_law_989 (by decide) ?_
      refine va_forget (fun q hq => by have h := hS.2.2 q hq; rw [hAe] at h; exact h) ?_
      refine W.widen (k := 600000) (n := 7302249) (Nat.le_of_ble_eq_true rfl) (Nat.le_of_ble_eq_true rfl) ?_
      exact lw_ret hx hb hr hlocks dL_law_990
  · skip
    refine lv_aload_n hx hb dL_law_867 rfl (lv_at hl 1 rfl) ?_
    refine lv_aload_n hx hb dL_law_868 rfl (lv_at hl 3 rfl) ?_
    refine lv_iload_n hx hb dL_law_869 rfl (lv_at hl 0 rfl) ?_
    refine lv_iconst (v := 1) hx hb dL_law_870 (by decide) ?_
    refine lv_iadd hx hb dL_law_871 ?_
    refine tk_i 1 (by decide) ?_
    refine va_sld hx hb hX hbl hbA hS (show ¬ ((1 : Int32) < 0 ∨ 6 ≤ Int32.toNatClampNeg 1) by decide) dL_law_872 ?_
    refine tk_i x1 ex1 ?_
    have hPc : va_P (dC, dI) vwCl (mw b cy) _ := hP.sub [56, 57, 58, 59, 60, 61, 62, 63] rfl
    have hDc := hD.sub (ws' := mw b cy) [56, 57, 58, 59, 60, 61, 62, 63] (by decide) rfl
    have hFc := va_free (wc := mw b cy) hD hS hA [56, 57, 58, 59, 60, 61, 62, 63] rfl
    refine va_calli (va_runV (As := [.int x1]) (rest := [.int 0]) ⟨hx, hb, hml, hown, hts⟩ (c_X12_error l dC dI cy b _ x1) (cwV 1 hts g_L_law_X12_error_118 rfl rfl rfl (by decide +kernel) ⟨Nat.le_of_ble_eq_true rfl, Nat.le_of_ble_eq_true rfl⟩) (pv_ps hC hPc hDc (ci := 12) (q0 := 0) rfl rfl) rfl rfl hl.1 rfl (lv_room (Nat.le_of_ble_eq_true rfl)) dL_law_873 ⟨Nat.le_of_ble_eq_true rfl, Nat.le_of_ble_eq_true rfl⟩) hS (fun q _ h => hFc q h) hFc (fun r_ u t_ H1 locs ht hvm hw hB hz1 hk1 hS => ?_)
    obtain ⟨hP, hD⟩ := va_join (wr := []) (w1 := []) hP hD [56, 57, 58, 59, 60, 61, 62, 63] [] rfl rfl (by decide) (by decide) hk1 hFc va_P0 va_D0
    generalize H1 = H at hP hS ⊢
    have hP : va_P (dC, dI) vwCl ([]) H := hP
    have hD : va_D A ([]) := hD
    rcases hw with ⟨c3989_, rfl⟩ | ⟨c3990_, rfl⟩ | ⟨c3991_, rfl⟩ | ⟨c3992_, c3993_, c3994_, c3995_, rfl⟩ | ⟨c3996_, c3997_, c3998_, c3999_, c4000_, rfl⟩
    · skip
      subst c3989_
      refine lv_icmp_eq (tgt := 983) hx hb dL_law_876 (by decide) (fun _ => ?_) (fun c9_ => absurd (by decide) c9_)
      refine lv_iinc (v := 6) (lv' := [(3, .int 6), (2, .ref (b 0)), (1, .ref (a 0)), (0, .ref sc)]) hx hb dL_law_983 hl (k := 0) rfl (by decide) (by decide) rfl (fun ls hl => ?_)
      refine lv_goto (tgt := 18) hx hb dL_law_986 (by decide) ?_
      refine lv_iload_n hx hb dL_law_18 rfl (lv_at hl 0 rfl) ?_
      refine lv_aload_n hx hb dL_law_19 rfl (lv_at hl 3 rfl) ?_
      refine va_slen hx hb hX hbl hbA hS dL_law_20 ?_
      refine tk_i 6 (by decide) ?_
      refine lv_bipush (v := 6) hx hb dL_law_21 (by decide) ?_
      refine lv_isub hx hb dL_law_23 ?_
      refine tk_i 0 (by decide) ?_
      refine lv_icmp_gt (tgt := 989) hx hb dL_law_24 (by decide) (fun _ => ?_) (fun c9_ => absurd (by decide) c9_)
      refine lv_iconst (v := 1) hx hb dL_law_989 (by decide) ?_
      refine va_forget (fun q hq => by have h := hS.2.2 q hq; rw [hAe] at h; exact h) ?_
      refine W.widen (k := 600000) (n := 7302249) (Nat.le_of_ble_eq_true rfl) (Nat.le_of_ble_eq_true rfl) ?_
      exact lw_ret hx hb hr hlocks dL_law_990
    · skip
      subst c3990_
      refine lv_icmp_eq (tgt := 983) hx hb dL_law_876 (by decide) (fun _ => ?_) (fun c9_ => absurd (by decide) c9_)
      refine lv_iinc (v := 6) (lv' := [(3, .int 6), (2, .ref (b 0)), (1, .ref (a 0)), (0, .ref sc)]) hx hb dL_law_983 hl (k := 0) rfl (by decide) (by decide) rfl (fun ls hl => ?_)
      refine lv_goto (tgt := 18) hx hb dL_law_986 (by decide) ?_
      refine lv_iload_n hx hb dL_law_18 rfl (lv_at hl 0 rfl) ?_
      refine lv_aload_n hx hb dL_law_19 rfl (lv_at hl 3 rfl) ?_
      refine va_slen hx hb hX hbl hbA hS dL_law_20 ?_
      refine tk_i 6 (by decide) ?_
      refine lv_bipush (v := 6) hx hb dL_law_21 (by decide) ?_
      refine lv_isub hx hb dL_law_23 ?_
      refine tk_i 0 (by decide) ?_
      refine lv_icmp_gt (tgt := 989) hx hb dL_law_24 (by decide) (fun _ => ?_) (fun c9_ => absurd (by decide) c9_)
      refine lv_iconst (v := 1) hx hb dL_law_989 (by decide) ?_
      refine va_forget (fun q hq => by have h := hS.2.2 q hq; rw [hAe] at h; exact h) ?_
      refine W.widen (k := 600000) (n := 7302249) (Nat.le_of_ble_eq_true rfl) (Nat.le_of_ble_eq_true rfl) ?_
      exact lw_ret hx hb hr hlocks dL_law_990
    · skip
      subst c3991_
      refine lv_icmp_eq (tgt := 983) hx hb dL_law_876 (by decide) (fun _ => ?_) (fun c9_ => absurd (by decide) c9_)
      refine lv_iinc (v := 6) (lv' := [(3, .int 6), (2, .ref (b 0)), (1, .ref (a 0)), (0, .ref sc)]) hx hb dL_law_983 hl (k := 0) rfl (by decide) (by decide) rfl (fun ls hl => ?_)
      refine lv_goto (tgt := 18) hx hb dL_law_986 (by decide) ?_
      refine lv_iload_n hx hb dL_law_18 rfl (lv_at hl 0 rfl) ?_
      refine lv_aload_n hx hb dL_law_19 rfl (lv_at hl 3 rfl) ?_
      refine va_slen hx hb hX hbl hbA hS dL_law_20 ?_
      refine tk_i 6 (by decide) ?_
      refine lv_bipush (v := 6) hx hb dL_law_21 (by decide) ?_
      refine lv_isub hx hb dL_law_23 ?_
      refine tk_i 0 (by decide) ?_
      refine lv_icmp_gt (tgt := 989) hx hb dL_law_24 (by decide) (fun _ => ?_) (fun c9_ => absurd (by decide) c9_)
      refine lv_iconst (v := 1) hx hb dL_law_989 (by decide) ?_
      refine va_forget (fun q hq => by have h := hS.2.2 q hq; rw [hAe] at h; exact h) ?_
      refine W.widen (k := 600000) (n := 7302249) (Nat.le_of_ble_eq_true rfl) (Nat.le_of_ble_eq_true rfl) ?_
      exact lw_ret hx hb hr hlocks dL_law_990
    · skip
      have e4001_ : x1 = 2 := by
        have z0_ := tz_nlt_r c3951_ (show (0 : Int32).toInt = 0 by decide)
        have z1_ := tz_nle_l c3952_ (show (3 : Int32).toInt = 3 by decide)
        have z2_ := tz_neq_r c3992_ (show (0 : Int32).toInt = 0 by decide)
        have z3_ := tz_neq_r c3993_ (show (1 : Int32).toInt = 1 by decide)
        exact tz_pin (show (2 : Int32).toInt = 2 by decide) (by omega)
      subst e4001_
      exfalso
      have z0_ := tz_eq_r rfl (show (2 : Int32).toInt = 2 by decide)
      have z1_ := tz_neq_r c3994_ (show (2 : Int32).toInt = 2 by decide)
      omega
    · skip
      have e4002_ : x1 = 2 := by
        have z0_ := tz_nlt_r c3951_ (show (0 : Int32).toInt = 0 by decide)
        have z1_ := tz_nle_l c3952_ (show (3 : Int32).toInt = 3 by decide)
        have z2_ := tz_neq_r c3996_ (show (0 : Int32).toInt = 0 by decide)
        have z3_ := tz_neq_r c3997_ (show (1 : Int32).toInt = 1 by decide)
        exact tz_pin (show (2 : Int32).toInt = 2 by decide) (by omega)
      subst e4002_
      exfalso
      have z0_ := tz_eq_r rfl (show (2 : Int32).toInt = 2 by decide)
      have z1_ := tz_neq_r c3998_ (show (2 : Int32).toInt = 2 by decide)
      omega
set_option maxHeartbeats 40000000 in
set_option maxRecDepth 100000 in
theorem lawc_25 {p : Program} {e : Env} {s : State} {m : MethodId} {below : List Frame} {meth : Method} {c : Code} (l : Launch) {sc : Nat} {xs : Nat → Int32} {A : Nat → Prop} {dC : Nat → ClassId} {dI : Nat → Nat → Nat} {cy : Nat → ClassId} {a b : Nat → Nat} {g : Nat → Nat → Option Nat} (hAe : A = fun q => s.heap.size ≤ q) (C0 : lw_At p s m meth c sc 6 xs) (hC : cK dC dI cy s) {H : Heap} {locs : List Loc} {ls : Array Slot} (hP : va_P (dC, dI) vwCl (fw a cy g ++ mw b cy) H) (hD : va_D A (fw a cy g ++ mw b cy)) (hS : va_S A s.heap H locs) (hl : lv_has ls 4 [(3, .int 0), (2, .ref (b 0)), (1, .ref (a 0)), (0, .ref sc)]) : W p l e room_1 s m #[Value.ref sc] below meth c H locs 1000 100000 (lw_Z below #[Value.ref sc] s) (F0 m 881 ls []) := by
  obtain ⟨hx, hb, hr, hml, hown, hts0, hX, hbl, hlocks, -⟩ := C0
  have hown : s.vm.findClass RL = some m.cls := hown
  have hts : ∀ w ∈ v_L_law, w.before #[Value.ref sc] s = true := fun w h => hts0 w (v_L_in w h)
  have hK := hC.1
  have hA : ∀ q : Nat, s.heap.size ≤ q → A q := fun q h => by rw [hAe]; exact h
  have hbA : ¬ A sc := by
    rw [hAe]
    exact Nat.not_le.mpr hbl
  obtain ⟨x0, ex0⟩ : ∃ z : Int32, xs (Int32.toNatClampNeg 0) = z := ⟨_, rfl⟩
  obtain ⟨x1, ex1⟩ : ∃ z : Int32, xs (Int32.toNatClampNeg 1) = z := ⟨_, rfl⟩
  obtain ⟨x2, ex2⟩ : ∃ z : Int32, xs (Int32.toNatClampNeg 2) = z := ⟨_, rfl⟩
  obtain ⟨x3, ex3⟩ : ∃ z : Int32, xs (Int32.toNatClampNeg 3) = z := ⟨_, rfl⟩
  obtain ⟨x4, ex4⟩ : ∃ z : Int32, xs (Int32.toNatClampNeg 4) = z := ⟨_, rfl⟩
  obtain ⟨x5, ex5⟩ : ∃ z : Int32, xs (Int32.toNatClampNeg 5) = z := ⟨_, rfl⟩
  refine lv_aload_n hx hb dL_law_881 rfl (lv_at hl 2 rfl) ?_
  refine lv_aload_n hx hb dL_law_882 rfl (lv_at hl 3 rfl) ?_
  refine lv_iload_n hx hb dL_law_883 rfl (lv_at hl 0 rfl) ?_
  refine lv_iconst (v := 1) hx hb dL_law_884 (by decide) ?_
  refine lv_iadd hx hb dL_law_885 ?_
  refine tk_i 1 (by decide) ?_
  refine va_sld hx hb hX hbl hbA hS (show ¬ ((1 : Int32) < 0 ∨ 6 ≤ Int32.toNatClampNeg 1) by decide) dL_law_886 ?_
  refine tk_i x1 ex1 ?_
  refine lv_aload_n hx hb dL_law_887 rfl (lv_at hl 3 rfl) ?_
  refine lv_iload_n hx hb dL_law_888 rfl (lv_at hl 0 rfl) ?_
  refine lv_iconst (v := 2) hx hb dL_law_889 (by decide) ?_
  refine lv_iadd hx hb dL_law_890 ?_
  refine tk_i 2 (by decide) ?_
  refine va_sld hx hb hX hbl hbA hS (show ¬ ((2 : Int32) < 0 ∨ 6 ≤ Int32.toNatClampNeg 2) by decide) dL_law_891 ?_
  refine tk_i x2 ex2 ?_
  have hPc : va_P (dC, dI) vwCl (fw a cy g) _ := hP.sub [0, 1, 2, 3, 4, 5, 6, 7, 8, 9, 10, 11, 12, 13, 14, 15, 16, 17, 18, 19, 20, 21, 22, 23, 24, 25, 26, 27, 28, 29, 30, 31, 32, 33, 34, 35, 36, 37, 38, 39, 40, 41, 42, 43, 44, 45, 46, 47, 48, 49, 50, 51, 52, 53, 54, 55] rfl
  refine tk_pi (va_runV (As := [.int x1, .int x2]) (rest := []) ⟨hx, hb, hml, hown, hts⟩ (c_X11_note l dC dI cy a g x1 x2) (cwV 2 hts g_L_law_X11_note_119 rfl rfl rfl (by decide +kernel) ⟨Nat.le_of_ble_eq_true rfl, Nat.le_of_ble_eq_true rfl⟩) (pv_pp hC hPc (ci := 11) (q0 := 0) rfl rfl) rfl rfl hl.1 rfl (lv_room (Nat.le_of_ble_eq_true rfl)) dL_law_892 ⟨Nat.le_of_ble_eq_true rfl, Nat.le_of_ble_eq_true rfl⟩) hP hS (fun r_ H locs hw hP hS => ?_)
  rcases hw with ⟨c4003_, rfl⟩ | ⟨c4004_, c4005_, rfl⟩
  · skip
    refine lv_aload_n hx hb dL_law_895 rfl (lv_at hl 1 rfl) ?_
    refine lv_aload_n hx hb dL_law_896 rfl (lv_at hl 3 rfl) ?_
    refine lv_iload_n hx hb dL_law_897 rfl (lv_at hl 0 rfl) ?_
    refine lv_iconst (v := 1) hx hb dL_law_898 (by decide) ?_
    refine lv_iadd hx hb dL_law_899 ?_
    refine tk_i 1 (by decide) ?_
    refine va_sld hx hb hX hbl hbA hS (show ¬ ((1 : Int32) < 0 ∨ 6 ≤ Int32.toNatClampNeg 1) by decide) dL_law_900 ?_
    refine tk_i x1 ex1 ?_
    refine lv_aload_n hx hb dL_law_901 rfl (lv_at hl 3 rfl) ?_
    refine lv_iload_n hx hb dL_law_902 rfl (lv_at hl 0 rfl) ?_
    refine lv_iconst (v := 2) hx hb dL_law_903 (by decide) ?_
    refine lv_iadd hx hb dL_law_904 ?_
    refine tk_i 2 (by decide) ?_
    refine va_sld hx hb hX hbl hbA hS (show ¬ ((2 : Int32) < 0 ∨ 6 ≤ Int32.toNatClampNeg 2) by decide) dL_law_905 ?_
    refine tk_i x2 ex2 ?_
    have hPc : va_P (dC, dI) vwCl (mw b cy) _ := hP.sub [56, 57, 58, 59, 60, 61, 62, 63] rfl
    have hDc := hD.sub (ws' := mw b cy) [56, 57, 58, 59, 60, 61, 62, 63] (by decide) rfl
    have hFc := va_free (wc := mw b cy) hD hS hA [56, 57, 58, 59, 60, 61, 62, 63] rfl
    refine va_calli (va_runV (As := [.int x1, .int x2]) (rest := [.int (-1)]) ⟨hx, hb, hml, hown, hts⟩ (c_X12_note l dC dI cy b _ x1 x2) (cwV 2 hts g_L_law_X12_note_122 rfl rfl rfl (by decide +kernel) ⟨Nat.le_of_ble_eq_true rfl, Nat.le_of_ble_eq_true rfl⟩) (pv_ps hC hPc hDc (ci := 12) (q0 := 0) rfl rfl) rfl rfl hl.1 rfl (lv_room (Nat.le_of_ble_eq_true rfl)) dL_law_906 ⟨Nat.le_of_ble_eq_true rfl, Nat.le_of_ble_eq_true rfl⟩) hS (fun q _ h => hFc q h) hFc (fun r_ u t_ H1 locs ht hvm hw hB hz1 hk1 hS => ?_)
    obtain ⟨hP, hD⟩ := va_join (wr := []) (w1 := []) hP hD [56, 57, 58, 59, 60, 61, 62, 63] [] rfl rfl (by decide) (by decide) hk1 hFc va_P0 va_D0
    generalize H1 = H at hP hS ⊢
    have hP : va_P (dC, dI) vwCl ([]) H := hP
    have hD : va_D A ([]) := hD
    rcases hw with ⟨c4006_, rfl⟩ | ⟨c4007_, c4008_, rfl⟩
    · skip
      refine lv_icmp_eq (tgt := 983) hx hb dL_law_909 (by decide) (fun _ => ?_) (fun c9_ => absurd (by decide) c9_)
      refine lv_iinc (v := 6) (lv' := [(3, .int 6), (2, .ref (b 0)), (1, .ref (a 0)), (0, .ref sc)]) hx hb dL_law_983 hl (k := 0) rfl (by decide) (by decide) rfl (fun ls hl => ?_)
      refine lv_goto (tgt := 18) hx hb dL_law_986 (by decide) ?_
      refine lv_iload_n hx hb dL_law_18 rfl (lv_at hl 0 rfl) ?_
      refine lv_aload_n hx hb dL_law_19 rfl (lv_at hl 3 rfl) ?_
      refine va_slen hx hb hX hbl hbA hS dL_law_20 ?_
      refine tk_i 6 (by decide) ?_
      refine lv_bipush (v := 6) hx hb dL_law_21 (by decide) ?_
      refine lv_isub hx hb dL_law_23 ?_
      refine tk_i 0 (by decide) ?_
      refine lv_icmp_gt (tgt := 989) hx hb dL_law_24 (by decide) (fun _ => ?_) (fun c9_ => absurd (by decide) c9_)
      refine lv_iconst (v := 1) hx hb dL_law_989 (by decide) ?_
      refine va_forget (fun q hq => by have h := hS.2.2 q hq; rw [hAe] at h; exact h) ?_
      refine W.widen (k := 600000) (n := 7302249) (Nat.le_of_ble_eq_true rfl) (Nat.le_of_ble_eq_true rfl) ?_
      exact lw_ret hx hb hr hlocks dL_law_990
    · skip
      exfalso
      have z0_ := tz_lt_r c4003_ (show (0 : Int32).toInt = 0 by decide)
      have z1_ := tz_nlt_r c4007_ (show (0 : Int32).toInt = 0 by decide)
      omega
  · skip
    refine lv_aload_n hx hb dL_law_895 rfl (lv_at hl 1 rfl) ?_
    refine lv_aload_n hx hb dL_law_896 rfl (lv_at hl 3 rfl) ?_
    refine lv_iload_n hx hb dL_law_897 rfl (lv_at hl 0 rfl) ?_
    refine lv_iconst (v := 1) hx hb dL_law_898 (by decide) ?_
    refine lv_iadd hx hb dL_law_899 ?_
    refine tk_i 1 (by decide) ?_
    refine va_sld hx hb hX hbl hbA hS (show ¬ ((1 : Int32) < 0 ∨ 6 ≤ Int32.toNatClampNeg 1) by decide) dL_law_900 ?_
    refine tk_i x1 ex1 ?_
    refine lv_aload_n hx hb dL_law_901 rfl (lv_at hl 3 rfl) ?_
    refine lv_iload_n hx hb dL_law_902 rfl (lv_at hl 0 rfl) ?_
    refine lv_iconst (v := 2) hx hb dL_law_903 (by decide) ?_
    refine lv_iadd hx hb dL_law_904 ?_
    refine tk_i 2 (by decide) ?_
    refine va_sld hx hb hX hbl hbA hS (show ¬ ((2 : Int32) < 0 ∨ 6 ≤ Int32.toNatClampNeg 2) by decide) dL_law_905 ?_
    refine tk_i x2 ex2 ?_
    have hPc : va_P (dC, dI) vwCl (mw b cy) _ := hP.sub [56, 57, 58, 59, 60, 61, 62, 63] rfl
    have hDc := hD.sub (ws' := mw b cy) [56, 57, 58, 59, 60, 61, 62, 63] (by decide) rfl
    have hFc := va_free (wc := mw b cy) hD hS hA [56, 57, 58, 59, 60, 61, 62, 63] rfl
    refine va_calli (va_runV (As := [.int x1, .int x2]) (rest := [.int (-1)]) ⟨hx, hb, hml, hown, hts⟩ (c_X12_note l dC dI cy b _ x1 x2) (cwV 2 hts g_L_law_X12_note_122 rfl rfl rfl (by decide +kernel) ⟨Nat.le_of_ble_eq_true rfl, Nat.le_of_ble_eq_true rfl⟩) (pv_ps hC hPc hDc (ci := 12) (q0 := 0) rfl rfl) rfl rfl hl.1 rfl (lv_room (Nat.le_of_ble_eq_true rfl)) dL_law_906 ⟨Nat.le_of_ble_eq_true rfl, Nat.le_of_ble_eq_true rfl⟩) hS (fun q _ h => hFc q h) hFc (fun r_ u t_ H1 locs ht hvm hw hB hz1 hk1 hS => ?_)
    obtain ⟨hP, hD⟩ := va_join (wr := []) (w1 := []) hP hD [56, 57, 58, 59, 60, 61, 62, 63] [] rfl rfl (by decide) (by decide) hk1 hFc va_P0 va_D0
    generalize H1 = H at hP hS ⊢
    have hP : va_P (dC, dI) vwCl ([]) H := hP
    have hD : va_D A ([]) := hD
    rcases hw with ⟨c4009_, rfl⟩ | ⟨c4010_, c4011_, rfl⟩
    · skip
      exfalso
      have z0_ := tz_nlt_r c4004_ (show (0 : Int32).toInt = 0 by decide)
      have z1_ := tz_le_l c4005_ (show (0 : Int32).toInt = 0 by decide)
      have z2_ := tz_lt_r c4009_ (show (0 : Int32).toInt = 0 by decide)
      omega
    · skip
      refine lv_icmp_eq (tgt := 983) hx hb dL_law_909 (by decide) (fun _ => ?_) (fun c9_ => absurd (by decide) c9_)
      refine lv_iinc (v := 6) (lv' := [(3, .int 6), (2, .ref (b 0)), (1, .ref (a 0)), (0, .ref sc)]) hx hb dL_law_983 hl (k := 0) rfl (by decide) (by decide) rfl (fun ls hl => ?_)
      refine lv_goto (tgt := 18) hx hb dL_law_986 (by decide) ?_
      refine lv_iload_n hx hb dL_law_18 rfl (lv_at hl 0 rfl) ?_
      refine lv_aload_n hx hb dL_law_19 rfl (lv_at hl 3 rfl) ?_
      refine va_slen hx hb hX hbl hbA hS dL_law_20 ?_
      refine tk_i 6 (by decide) ?_
      refine lv_bipush (v := 6) hx hb dL_law_21 (by decide) ?_
      refine lv_isub hx hb dL_law_23 ?_
      refine tk_i 0 (by decide) ?_
      refine lv_icmp_gt (tgt := 989) hx hb dL_law_24 (by decide) (fun _ => ?_) (fun c9_ => absurd (by decide) c9_)
      refine lv_iconst (v := 1) hx hb dL_law_989 (by decide) ?_
      refine va_forget (fun q hq => by have h := hS.2.2 q hq; rw [hAe] at h; exact h) ?_
      refine W.widen (k := 600000) (n := 7302249) (Nat.le_of_ble_eq_true rfl) (Nat.le_of_ble_eq_true rfl) ?_
      exact lw_ret hx hb hr hlocks dL_law_990
set_option maxHeartbeats 40000000 in
set_option maxRecDepth 100000 in
theorem lawc_26 {p : Program} {e : Env} {s : State} {m : MethodId} {below : List Frame} {meth : Method} {c : Code} (l : Launch) {sc : Nat} {xs : Nat → Int32} {A : Nat → Prop} {dC : Nat → ClassId} {dI : Nat → Nat → Nat} {cy : Nat → ClassId} {a b : Nat → Nat} {g : Nat → Nat → Option Nat} (hAe : A = fun q => s.heap.size ≤ q) (C0 : lw_At p s m meth c sc 6 xs) (hC : cK dC dI cy s) {H : Heap} {locs : List Loc} {ls : Array Slot} (hP : va_P (dC, dI) vwCl (fw a cy g ++ mw b cy) H) (hD : va_D A (fw a cy g ++ mw b cy)) (hS : va_S A s.heap H locs) (hl : lv_has ls 4 [(3, .int 0), (2, .ref (b 0)), (1, .ref (a 0)), (0, .ref sc)]) : W p l e room_1 s m #[Value.ref sc] below meth c H locs 1000 100000 (lw_Z below #[Value.ref sc] s) (F0 m 914 ls []) := by
  obtain ⟨hx, hb, hr, hml, hown, hts0, hX, hbl, hlocks, -⟩ := C0
  have hown : s.vm.findClass RL = some m.cls := hown
  have hts : ∀ w ∈ v_L_law, w.before #[Value.ref sc] s = true := fun w h => hts0 w (v_L_in w h)
  have hK := hC.1
  have hA : ∀ q : Nat, s.heap.size ≤ q → A q := fun q h => by rw [hAe]; exact h
  have hbA : ¬ A sc := by
    rw [hAe]
    exact Nat.not_le.mpr hbl
  obtain ⟨x0, ex0⟩ : ∃ z : Int32, xs (Int32.toNatClampNeg 0) = z := ⟨_, rfl⟩
  obtain ⟨x1, ex1⟩ : ∃ z : Int32, xs (Int32.toNatClampNeg 1) = z := ⟨_, rfl⟩
  obtain ⟨x2, ex2⟩ : ∃ z : Int32, xs (Int32.toNatClampNeg 2) = z := ⟨_, rfl⟩
  obtain ⟨x3, ex3⟩ : ∃ z : Int32, xs (Int32.toNatClampNeg 3) = z := ⟨_, rfl⟩
  obtain ⟨x4, ex4⟩ : ∃ z : Int32, xs (Int32.toNatClampNeg 4) = z := ⟨_, rfl⟩
  obtain ⟨x5, ex5⟩ : ∃ z : Int32, xs (Int32.toNatClampNeg 5) = z := ⟨_, rfl⟩
  refine lv_aload_n hx hb dL_law_914 rfl (lv_at hl 2 rfl) ?_
  refine lv_aload_n hx hb dL_law_915 rfl (lv_at hl 3 rfl) ?_
  refine lv_iload_n hx hb dL_law_916 rfl (lv_at hl 0 rfl) ?_
  refine lv_iconst (v := 1) hx hb dL_law_917 (by decide) ?_
  refine lv_iadd hx hb dL_law_918 ?_
  refine tk_i 1 (by decide) ?_
  refine va_sld hx hb hX hbl hbA hS (show ¬ ((1 : Int32) < 0 ∨ 6 ≤ Int32.toNatClampNeg 1) by decide) dL_law_919 ?_
  refine tk_i x1 ex1 ?_
  refine lv_aload_n hx hb dL_law_920 rfl (lv_at hl 3 rfl) ?_
  refine lv_iload_n hx hb dL_law_921 rfl (lv_at hl 0 rfl) ?_
  refine lv_iconst (v := 2) hx hb dL_law_922 (by decide) ?_
  refine lv_iadd hx hb dL_law_923 ?_
  refine tk_i 2 (by decide) ?_
  refine va_sld hx hb hX hbl hbA hS (show ¬ ((2 : Int32) < 0 ∨ 6 ≤ Int32.toNatClampNeg 2) by decide) dL_law_924 ?_
  refine tk_i x2 ex2 ?_
  have hPc : va_P (dC, dI) vwCl (fw a cy g) _ := hP.sub [0, 1, 2, 3, 4, 5, 6, 7, 8, 9, 10, 11, 12, 13, 14, 15, 16, 17, 18, 19, 20, 21, 22, 23, 24, 25, 26, 27, 28, 29, 30, 31, 32, 33, 34, 35, 36, 37, 38, 39, 40, 41, 42, 43, 44, 45, 46, 47, 48, 49, 50, 51, 52, 53, 54, 55] rfl
  refine tk_pi (va_runV (As := [.int x1, .int x2]) (rest := []) ⟨hx, hb, hml, hown, hts⟩ (c_X11_switched l dC dI cy a g x1 x2) (cwV 2 hts g_L_law_X11_switched_123 rfl rfl rfl (by decide +kernel) ⟨Nat.le_of_ble_eq_true rfl, Nat.le_of_ble_eq_true rfl⟩) (pv_pp hC hPc (ci := 11) (q0 := 0) rfl rfl) rfl rfl hl.1 rfl (lv_room (Nat.le_of_ble_eq_true rfl)) dL_law_925 ⟨Nat.le_of_ble_eq_true rfl, Nat.le_of_ble_eq_true rfl⟩) hP hS (fun r_ H locs hw hP hS => ?_)
  rcases hw with ⟨c4012_, rfl⟩ | ⟨c4013_, c4014_, rfl⟩
  · skip
    refine lv_aload_n hx hb dL_law_928 rfl (lv_at hl 1 rfl) ?_
    refine lv_aload_n hx hb dL_law_929 rfl (lv_at hl 3 rfl) ?_
    refine lv_iload_n hx hb dL_law_930 rfl (lv_at hl 0 rfl) ?_
    refine lv_iconst (v := 1) hx hb dL_law_931 (by decide) ?_
    refine lv_iadd hx hb dL_law_932 ?_
    refine tk_i 1 (by decide) ?_
    refine va_sld hx hb hX hbl hbA hS (show ¬ ((1 : Int32) < 0 ∨ 6 ≤ Int32.toNatClampNeg 1) by decide) dL_law_933 ?_
    refine tk_i x1 ex1 ?_
    refine lv_aload_n hx hb dL_law_934 rfl (lv_at hl 3 rfl) ?_
    refine lv_iload_n hx hb dL_law_935 rfl (lv_at hl 0 rfl) ?_
    refine lv_iconst (v := 2) hx hb dL_law_936 (by decide) ?_
    refine lv_iadd hx hb dL_law_937 ?_
    refine tk_i 2 (by decide) ?_
    refine va_sld hx hb hX hbl hbA hS (show ¬ ((2 : Int32) < 0 ∨ 6 ≤ Int32.toNatClampNeg 2) by decide) dL_law_938 ?_
    refine tk_i x2 ex2 ?_
    have hPc : va_P (dC, dI) vwCl (mw b cy) _ := hP.sub [56, 57, 58, 59, 60, 61, 62, 63] rfl
    have hDc := hD.sub (ws' := mw b cy) [56, 57, 58, 59, 60, 61, 62, 63] (by decide) rfl
    have hFc := va_free (wc := mw b cy) hD hS hA [56, 57, 58, 59, 60, 61, 62, 63] rfl
    refine va_calli (va_runV (As := [.int x1, .int x2]) (rest := [.int (-1)]) ⟨hx, hb, hml, hown, hts⟩ (c_X12_switched l dC dI cy b _ x1 x2) (cwV 2 hts g_L_law_X12_switched_126 rfl rfl rfl (by decide +kernel) ⟨Nat.le_of_ble_eq_true rfl, Nat.le_of_ble_eq_true rfl⟩) (pv_ps hC hPc hDc (ci := 12) (q0 := 0) rfl rfl) rfl rfl hl.1 rfl (lv_room (Nat.le_of_ble_eq_true rfl)) dL_law_939 ⟨Nat.le_of_ble_eq_true rfl, Nat.le_of_ble_eq_true rfl⟩) hS (fun q _ h => hFc q h) hFc (fun r_ u t_ H1 locs ht hvm hw hB hz1 hk1 hS => ?_)
    obtain ⟨hP, hD⟩ := va_join (wr := []) (w1 := []) hP hD [56, 57, 58, 59, 60, 61, 62, 63] [] rfl rfl (by decide) (by decide) hk1 hFc va_P0 va_D0
    generalize H1 = H at hP hS ⊢
    have hP : va_P (dC, dI) vwCl ([]) H := hP
    have hD : va_D A ([]) := hD
    rcases hw with ⟨c4015_, rfl⟩ | ⟨c4016_, c4017_, rfl⟩
    · skip
      refine lv_icmp_eq (tgt := 983) hx hb dL_law_942 (by decide) (fun _ => ?_) (fun c9_ => absurd (by decide) c9_)
      refine lv_iinc (v := 6) (lv' := [(3, .int 6), (2, .ref (b 0)), (1, .ref (a 0)), (0, .ref sc)]) hx hb dL_law_983 hl (k := 0) rfl (by decide) (by decide) rfl (fun ls hl => ?_)
      refine lv_goto (tgt := 18) hx hb dL_law_986 (by decide) ?_
      refine lv_iload_n hx hb dL_law_18 rfl (lv_at hl 0 rfl) ?_
      refine lv_aload_n hx hb dL_law_19 rfl (lv_at hl 3 rfl) ?_
      refine va_slen hx hb hX hbl hbA hS dL_law_20 ?_
      refine tk_i 6 (by decide) ?_
      refine lv_bipush (v := 6) hx hb dL_law_21 (by decide) ?_
      refine lv_isub hx hb dL_law_23 ?_
      refine tk_i 0 (by decide) ?_
      refine lv_icmp_gt (tgt := 989) hx hb dL_law_24 (by decide) (fun _ => ?_) (fun c9_ => absurd (by decide) c9_)
      refine lv_iconst (v := 1) hx hb dL_law_989 (by decide) ?_
      refine va_forget (fun q hq => by have h := hS.2.2 q hq; rw [hAe] at h; exact h) ?_
      refine W.widen (k := 600000) (n := 7302249) (Nat.le_of_ble_eq_true rfl) (Nat.le_of_ble_eq_true rfl) ?_
      exact lw_ret hx hb hr hlocks dL_law_990
    · skip
      exfalso
      have z0_ := tz_lt_r c4012_ (show (0 : Int32).toInt = 0 by decide)
      have z1_ := tz_nlt_r c4016_ (show (0 : Int32).toInt = 0 by decide)
      omega
  · skip
    refine lv_aload_n hx hb dL_law_928 rfl (lv_at hl 1 rfl) ?_
    refine lv_aload_n hx hb dL_law_929 rfl (lv_at hl 3 rfl) ?_
    refine lv_iload_n hx hb dL_law_930 rfl (lv_at hl 0 rfl) ?_
    refine lv_iconst (v := 1) hx hb dL_law_931 (by decide) ?_
    refine lv_iadd hx hb dL_law_932 ?_
    refine tk_i 1 (by decide) ?_
    refine va_sld hx hb hX hbl hbA hS (show ¬ ((1 : Int32) < 0 ∨ 6 ≤ Int32.toNatClampNeg 1) by decide) dL_law_933 ?_
    refine tk_i x1 ex1 ?_
    refine lv_aload_n hx hb dL_law_934 rfl (lv_at hl 3 rfl) ?_
    refine lv_iload_n hx hb dL_law_935 rfl (lv_at hl 0 rfl) ?_
    refine lv_iconst (v := 2) hx hb dL_law_936 (by decide) ?_
    refine lv_iadd hx hb dL_law_937 ?_
    refine tk_i 2 (by decide) ?_
    refine va_sld hx hb hX hbl hbA hS (show ¬ ((2 : Int32) < 0 ∨ 6 ≤ Int32.toNatClampNeg 2) by decide) dL_law_938 ?_
    refine tk_i x2 ex2 ?_
    have hPc : va_P (dC, dI) vwCl (mw b cy) _ := hP.sub [56, 57, 58, 59, 60, 61, 62, 63] rfl
    have hDc := hD.sub (ws' := mw b cy) [56, 57, 58, 59, 60, 61, 62, 63] (by decide) rfl
    have hFc := va_free (wc := mw b cy) hD hS hA [56, 57, 58, 59, 60, 61, 62, 63] rfl
    refine va_calli (va_runV (As := [.int x1, .int x2]) (rest := [.int (-1)]) ⟨hx, hb, hml, hown, hts⟩ (c_X12_switched l dC dI cy b _ x1 x2) (cwV 2 hts g_L_law_X12_switched_126 rfl rfl rfl (by decide +kernel) ⟨Nat.le_of_ble_eq_true rfl, Nat.le_of_ble_eq_true rfl⟩) (pv_ps hC hPc hDc (ci := 12) (q0 := 0) rfl rfl) rfl rfl hl.1 rfl (lv_room (Nat.le_of_ble_eq_true rfl)) dL_law_939 ⟨Nat.le_of_ble_eq_true rfl, Nat.le_of_ble_eq_true rfl⟩) hS (fun q _ h => hFc q h) hFc (fun r_ u t_ H1 locs ht hvm hw hB hz1 hk1 hS => ?_)
    obtain ⟨hP, hD⟩ := va_join (wr := []) (w1 := []) hP hD [56, 57, 58, 59, 60, 61, 62, 63] [] rfl rfl (by decide) (by decide) hk1 hFc va_P0 va_D0
    generalize H1 = H at hP hS ⊢
    have hP : va_P (dC, dI) vwCl ([]) H := hP
    have hD : va_D A ([]) := hD
    rcases hw with ⟨c4018_, rfl⟩ | ⟨c4019_, c4020_, rfl⟩
    · skip
      exfalso
      have z0_ := tz_nlt_r c4013_ (show (0 : Int32).toInt = 0 by decide)
      have z1_ := tz_le_l c4014_ (show (0 : Int32).toInt = 0 by decide)
      have z2_ := tz_lt_r c4018_ (show (0 : Int32).toInt = 0 by decide)
      omega
    · skip
      refine lv_icmp_eq (tgt := 983) hx hb dL_law_942 (by decide) (fun _ => ?_) (fun c9_ => absurd (by decide) c9_)
      refine lv_iinc (v := 6) (lv' := [(3, .int 6), (2, .ref (b 0)), (1, .ref (a 0)), (0, .ref sc)]) hx hb dL_law_983 hl (k := 0) rfl (by decide) (by decide) rfl (fun ls hl => ?_)
      refine lv_goto (tgt := 18) hx hb dL_law_986 (by decide) ?_
      refine lv_iload_n hx hb dL_law_18 rfl (lv_at hl 0 rfl) ?_
      refine lv_aload_n hx hb dL_law_19 rfl (lv_at hl 3 rfl) ?_
      refine va_slen hx hb hX hbl hbA hS dL_law_20 ?_
      refine tk_i 6 (by decide) ?_
      refine lv_bipush (v := 6) hx hb dL_law_21 (by decide) ?_
      refine lv_isub hx hb dL_law_23 ?_
      refine tk_i 0 (by decide) ?_
      refine lv_icmp_gt (tgt := 989) hx hb dL_law_24 (by decide) (fun _ => ?_) (fun c9_ => absurd (by decide) c9_)
      refine lv_iconst (v := 1) hx hb dL_law_989 (by decide) ?_
      refine va_forget (fun q hq => by have h := hS.2.2 q hq; rw [hAe] at h; exact h) ?_
      refine W.widen (k := 600000) (n := 7302249) (Nat.le_of_ble_eq_true rfl) (Nat.le_of_ble_eq_true rfl) ?_
      exact lw_ret hx hb hr hlocks dL_law_990
set_option maxHeartbeats 40000000 in
set_option maxRecDepth 100000 in
theorem lawc_28 {p : Program} {e : Env} {s : State} {m : MethodId} {below : List Frame} {meth : Method} {c : Code} (l : Launch) {sc : Nat} {xs : Nat → Int32} {A : Nat → Prop} {dC : Nat → ClassId} {dI : Nat → Nat → Nat} {cy : Nat → ClassId} {a b : Nat → Nat} {g : Nat → Nat → Option Nat} (hAe : A = fun q => s.heap.size ≤ q) (C0 : lw_At p s m meth c sc 6 xs) (hC : cK dC dI cy s) {H : Heap} {locs : List Loc} {ls : Array Slot} (hP : va_P (dC, dI) vwCl (fw a cy g ++ mw b cy) H) (hD : va_D A (fw a cy g ++ mw b cy)) (hS : va_S A s.heap H locs) (hl : lv_has ls 4 [(3, .int 0), (2, .ref (b 0)), (1, .ref (a 0)), (0, .ref sc)]) : W p l e room_1 s m #[Value.ref sc] below meth c H locs 1000 100000 (lw_Z below #[Value.ref sc] s) (F0 m 970 ls []) := by
  obtain ⟨hx, hb, hr, hml, hown, hts0, hX, hbl, hlocks, -⟩ := C0
  have hown : s.vm.findClass RL = some m.cls := hown
  have hts : ∀ w ∈ v_L_law, w.before #[Value.ref sc] s = true := fun w h => hts0 w (v_L_in w h)
  have hK := hC.1
  have hA : ∀ q : Nat, s.heap.size ≤ q → A q := fun q h => by rw [hAe]; exact h
  have hbA : ¬ A sc := by
    rw [hAe]
    exact Nat.not_le.mpr hbl
  obtain ⟨x0, ex0⟩ : ∃ z : Int32, xs (Int32.toNatClampNeg 0) = z := ⟨_, rfl⟩
  obtain ⟨x1, ex1⟩ : ∃ z : Int32, xs (Int32.toNatClampNeg 1) = z := ⟨_, rfl⟩
  obtain ⟨x2, ex2⟩ : ∃ z : Int32, xs (Int32.toNatClampNeg 2) = z := ⟨_, rfl⟩
  obtain ⟨x3, ex3⟩ : ∃ z : Int32, xs (Int32.toNatClampNeg 3) = z := ⟨_, rfl⟩
  obtain ⟨x4, ex4⟩ : ∃ z : Int32, xs (Int32.toNatClampNeg 4) = z := ⟨_, rfl⟩
  obtain ⟨x5, ex5⟩ : ∃ z : Int32, xs (Int32.toNatClampNeg 5) = z := ⟨_, rfl⟩
  refine lv_aload_n hx hb dL_law_970 rfl (lv_at hl 2 rfl) ?_
  have hPc : va_P (dC, dI) vwCl (fw a cy g) _ := hP.sub [0, 1, 2, 3, 4, 5, 6, 7, 8, 9, 10, 11, 12, 13, 14, 15, 16, 17, 18, 19, 20, 21, 22, 23, 24, 25, 26, 27, 28, 29, 30, 31, 32, 33, 34, 35, 36, 37, 38, 39, 40, 41, 42, 43, 44, 45, 46, 47, 48, 49, 50, 51, 52, 53, 54, 55] rfl
  refine tk_pi (va_runV (As := []) (rest := []) ⟨hx, hb, hml, hown, hts⟩ (c_X11_status l dC dI cy a g) (cwV 0 hts g_L_law_X11_status_131 rfl rfl rfl (by decide +kernel) ⟨Nat.le_of_ble_eq_true rfl, Nat.le_of_ble_eq_true rfl⟩) (pv_pp hC hPc (ci := 11) (q0 := 0) rfl rfl) rfl rfl hl.1 rfl (lv_room (Nat.le_of_ble_eq_true rfl)) dL_law_971 ⟨Nat.le_of_ble_eq_true rfl, Nat.le_of_ble_eq_true rfl⟩) hP hS (fun r_ H locs hw hP hS => ?_)
  subst hw
  refine lv_aload_n hx hb dL_law_974 rfl (lv_at hl 1 rfl) ?_
  have hPc : va_P (dC, dI) vwCl (mw b cy) _ := hP.sub [56, 57, 58, 59, 60, 61, 62, 63] rfl
  have hDc := hD.sub (ws' := mw b cy) [56, 57, 58, 59, 60, 61, 62, 63] (by decide) rfl
  have hFc := va_free (wc := mw b cy) hD hS hA [56, 57, 58, 59, 60, 61, 62, 63] rfl
  refine va_calli (va_runV (As := []) (rest := [.int 0]) ⟨hx, hb, hml, hown, hts⟩ (c_X12_status l dC dI cy b _) (cwV 0 hts g_L_law_X12_status_134 rfl rfl rfl (by decide +kernel) ⟨Nat.le_of_ble_eq_true rfl, Nat.le_of_ble_eq_true rfl⟩) (pv_ps hC hPc hDc (ci := 12) (q0 := 0) rfl rfl) rfl rfl hl.1 rfl (lv_room (Nat.le_of_ble_eq_true rfl)) dL_law_975 ⟨Nat.le_of_ble_eq_true rfl, Nat.le_of_ble_eq_true rfl⟩) hS (fun q _ h => hFc q h) hFc (fun r_ u t_ H1 locs ht hvm hw hB hz1 hk1 hS => ?_)
  obtain ⟨hP, hD⟩ := va_join (wr := []) (w1 := []) hP hD [56, 57, 58, 59, 60, 61, 62, 63] [] rfl rfl (by decide) (by decide) hk1 hFc va_P0 va_D0
  generalize H1 = H at hP hS ⊢
  have hP : va_P (dC, dI) vwCl ([]) H := hP
  have hD : va_D A ([]) := hD
  subst hw
  refine lv_icmp_eq (tgt := 983) hx hb dL_law_978 (by decide) (fun _ => ?_) (fun c9_ => absurd (by decide) c9_)
  refine lv_iinc (v := 6) (lv' := [(3, .int 6), (2, .ref (b 0)), (1, .ref (a 0)), (0, .ref sc)]) hx hb dL_law_983 hl (k := 0) rfl (by decide) (by decide) rfl (fun ls hl => ?_)
  refine lv_goto (tgt := 18) hx hb dL_law_986 (by decide) ?_
  refine lv_iload_n hx hb dL_law_18 rfl (lv_at hl 0 rfl) ?_
  refine lv_aload_n hx hb dL_law_19 rfl (lv_at hl 3 rfl) ?_
  refine va_slen hx hb hX hbl hbA hS dL_law_20 ?_
  refine tk_i 6 (by decide) ?_
  refine lv_bipush (v := 6) hx hb dL_law_21 (by decide) ?_
  refine lv_isub hx hb dL_law_23 ?_
  refine tk_i 0 (by decide) ?_
  refine lv_icmp_gt (tgt := 989) hx hb dL_law_24 (by decide) (fun _ => ?_) (fun c9_ => absurd (by decide) c9_)
  refine lv_iconst (v := 1) hx hb dL_law_989 (by decide) ?_
  refine va_forget (fun q hq => by have h := hS.2.2 q hq; rw [hAe] at h; exact h) ?_
  refine W.widen (k := 600000) (n := 7302249) (Nat.le_of_ble_eq_true rfl) (Nat.le_of_ble_eq_true rfl) ?_
  exact lw_ret hx hb hr hlocks dL_law_990
