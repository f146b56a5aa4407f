set_option maxHeartbeats 40000000 in
set_option maxRecDepth 100000 in
theorem lawc_27 {p : Program} {e : Env} {s : State} {m : MethodId} {below : List Frame} {meth : Method} {c : Code} (l : Launch) {sc : Nat} {xs : Nat → Int32} {A : Nat → Prop} {dC : Nat → ClassId} {dI : Nat → Nat → Nat} {cy : Nat → ClassId} {a b : Nat → Nat} {g : Nat → Nat → Option Nat} (hAe : A = fun q => s.heap.size ≤ q) (C0 : lw_At p s m meth c sc 6 xs) (hC : cK dC dI cy s) {H : Heap} {locs : List Loc} {ls : Array Slot} (hP : va_P (dC, dI) vwCl (fw a cy g ++ mw b cy) H) (hD : va_D A (fw a cy g ++ mw b cy)) (hS : va_S A s.heap H locs) (hl : lv_has ls 4 [(3, .int 0), (2, .ref (b 0)), (1, .ref (a 0)), (0, .ref sc)]) : W p l e room_1 s m #[Value.ref sc] below meth c H locs 1000 100000 (lw_Z below #[Value.ref sc] s) (F0 m 947 ls []) := by
  obtain ⟨hx, hb, hr, hml, hown, hts0, hX, hbl, hlocks, -⟩ := C0
  have hown : s.vm.findClass RL = some m.cls := hown
  have hts : ∀ w ∈ v_L_law, w.before #[Value.ref sc] s = true := fun w h => hts0 w (v_L_in w h)
  have hK := hC.1
  have hA : ∀ q : Nat, s.heap.size ≤ q → A q := fun q h => by rw [hAe]; exact h
  have hbA : ¬ A sc := by
    rw [hAe]
    exact Nat.not_le.mpr hbl
  obtain ⟨x0, ex0⟩ : ∃ z : Int32, xs (Int32.toNatClampNeg 0) = z := ⟨_, rfl⟩
  obtain ⟨x1, ex1⟩ : ∃ z : Int32, xs (Int32.toNatClampNeg 1) = z := ⟨_, rfl⟩
  obtain ⟨x2, ex2⟩ : ∃ z : Int32, xs (Int32.toNatClampNeg 2) = z := ⟨_, rfl⟩
  obtain ⟨x3, ex3⟩ : ∃ z : Int32, xs (Int32.toNatClampNeg 3) = z := ⟨_, rfl⟩
  obtain ⟨x4, ex4⟩ : ∃ z : Int32, xs (Int32.toNatClampNeg 4) = z := ⟨_, rfl⟩
  obtain ⟨x5, ex5⟩ : ∃ z : Int32, xs (Int32.toNatClampNeg 5) = z := ⟨_, rfl⟩
  refine lv_aload_n hx hb dL_law_947 rfl (lv_at hl 2 rfl) ?_
  refine lv_aload_n hx hb dL_law_948 rfl (lv_at hl 3 rfl) ?_
  refine lv_iload_n hx hb dL_law_949 rfl (lv_at hl 0 rfl) ?_
  refine lv_iconst (v := 1) hx hb dL_law_950 (by decide) ?_
  refine lv_iadd hx hb dL_law_951 ?_
  refine tk_i 1 (by decide) ?_
  refine va_sld hx hb hX hbl hbA hS (show ¬ ((1 : Int32) < 0 ∨ 6 ≤ Int32.toNatClampNeg 1) by decide) dL_law_952 ?_
  refine tk_i x1 ex1 ?_
  have hPc : va_P (dC, dI) vwCl (fw a cy g) _ := hP.sub [0, 1, 2, 3, 4, 5, 6, 7, 8, 9, 10, 11, 12, 13, 14, 15, 16, 17, 18, 19, 20, 21, 22, 23, 24, 25, 26, 27, 28, 29, 30, 31, 32, 33, 34, 35, 36, 37, 38, 39, 40, 41, 42, 43, 44, 45, 46, 47, 48, 49, 50, 51, 52, 53, 54, 55] rfl
  refine tk_pi (va_runV (As := [.int x1]) (rest := []) ⟨hx, hb, hml, hown, hts⟩ (c_X11_count l dC dI cy a g x1) (cwV 1 hts g_L_law_X11_count_127 rfl rfl rfl (by decide +kernel) ⟨Nat.le_of_ble_eq_true rfl, Nat.le_of_ble_eq_true rfl⟩) (pv_pp hC hPc (ci := 11) (q0 := 0) rfl rfl) rfl rfl hl.1 rfl (lv_room (Nat.le_of_ble_eq_true rfl)) dL_law_953 ⟨Nat.le_of_ble_eq_true rfl, Nat.le_of_ble_eq_true rfl⟩) hP hS (fun r_ H locs hw hP hS => ?_)
  rcases hw with ⟨c4021_, rfl⟩ | ⟨c4022_, rfl⟩ | ⟨c4023_, rfl⟩ | ⟨c4024_, rfl⟩ | ⟨c4025_, rfl⟩ | ⟨c4026_, rfl⟩ | ⟨c4027_, rfl⟩ | ⟨c4028_, rfl⟩ | ⟨c4029_, rfl⟩ | ⟨c4030_, rfl⟩ | ⟨c4031_, rfl⟩ | ⟨c4032_, rfl⟩ | ⟨c4033_, rfl⟩ | ⟨c4034_, rfl⟩ | ⟨c4035_, c4036_, c4037_, c4038_, c4039_, c4040_, c4041_, c4042_, c4043_, c4044_, c4045_, c4046_, c4047_, c4048_, c4049_, rfl⟩ | ⟨c4050_, c4051_, c4052_, c4053_, c4054_, c4055_, c4056_, c4057_, c4058_, c4059_, c4060_, c4061_, c4062_, c4063_, c4064_, c4065_, rfl⟩ | ⟨c4066_, c4067_, c4068_, c4069_, c4070_, c4071_, c4072_, c4073_, c4074_, c4075_, c4076_, c4077_, c4078_, c4079_, c4080_, c4081_, rfl⟩
  · skip
    subst c4021_
    refine lv_aload_n hx hb dL_law_956 rfl (lv_at hl 1 rfl) ?_
    refine lv_aload_n hx hb dL_law_957 rfl (lv_at hl 3 rfl) ?_
    refine lv_iload_n hx hb dL_law_958 rfl (lv_at hl 0 rfl) ?_
    refine lv_iconst (v := 1) hx hb dL_law_959 (by decide) ?_
    refine lv_iadd hx hb dL_law_960 ?_
    refine tk_i 1 (by decide) ?_
    refine va_sld hx hb hX hbl hbA hS (show ¬ ((1 : Int32) < 0 ∨ 6 ≤ Int32.toNatClampNeg 1) by decide) dL_law_961 ?_
    refine tk_i x1 ex1 ?_
    have hPc : va_P (dC, dI) vwCl (mw b cy) _ := hP.sub [56, 57, 58, 59, 60, 61, 62, 63] rfl
    have hDc := hD.sub (ws' := mw b cy) [56, 57, 58, 59, 60, 61, 62, 63] (by decide) rfl
    have hFc := va_free (wc := mw b cy) hD hS hA [56, 57, 58, 59, 60, 61, 62, 63] rfl
    refine va_calli (va_runV (As := [.int x1]) (rest := [.int 1]) ⟨hx, hb, hml, hown, hts⟩ (c_X12_count l dC dI cy b _ x1) (cwV 1 hts g_L_law_X12_count_130 rfl rfl rfl (by decide +kernel) ⟨Nat.le_of_ble_eq_true rfl, Nat.le_of_ble_eq_true rfl⟩) (pv_ps hC hPc hDc (ci := 12) (q0 := 0) rfl rfl) rfl rfl hl.1 rfl (lv_room (Nat.le_of_ble_eq_true rfl)) dL_law_962 ⟨Nat.le_of_ble_eq_true rfl, Nat.le_of_ble_eq_true rfl⟩) hS (fun q _ h => hFc q h) hFc (fun r_ u t_ H1 locs ht hvm hw hB hz1 hk1 hS => ?_)
    obtain ⟨hP, hD⟩ := va_join (wr := []) (w1 := []) hP hD [56, 57, 58, 59, 60, 61, 62, 63] [] rfl rfl (by decide) (by decide) hk1 hFc va_P0 va_D0
    generalize H1 = H at hP hS ⊢
    have hP : va_P (dC, dI) vwCl ([]) H := hP
    have hD : va_D A ([]) := hD
    rcases hw with ⟨c4082_, rfl⟩ | ⟨c4083_, rfl⟩ | ⟨c4084_, rfl⟩ | ⟨c4085_, rfl⟩ | ⟨c4086_, rfl⟩ | ⟨c4087_, rfl⟩ | ⟨c4088_, rfl⟩ | ⟨c4089_, rfl⟩ | ⟨c4090_, rfl⟩ | ⟨c4091_, rfl⟩ | ⟨c4092_, rfl⟩ | ⟨c4093_, rfl⟩ | ⟨c4094_, rfl⟩ | ⟨c4095_, rfl⟩ | ⟨c4096_, c4097_, c4098_, c4099_, c4100_, c4101_, c4102_, c4103_, c4104_, c4105_, c4106_, c4107_, c4108_, c4109_, c4110_, rfl⟩ | ⟨c4111_, c4112_, c4113_, c4114_, c4115_, c4116_, c4117_, c4118_, c4119_, c4120_, c4121_, c4122_, c4123_, c4124_, c4125_, c4126_, rfl⟩ | ⟨c4127_, c4128_, c4129_, c4130_, c4131_, c4132_, c4133_, c4134_, c4135_, c4136_, c4137_, c4138_, c4139_, c4140_, c4141_, c4142_, rfl⟩
    · skip
      refine lv_icmp_eq (tgt := 983) hx hb dL_law_965 (by decide) (fun _ => ?_) (fun c9_ => absurd (by decide) c9_)
      refine lv_iinc (v := 6) (lv' := [(3, .int 6), (2, .ref (b 0)), (1, .ref (a 0)), (0, .ref sc)]) hx hb dL_law_983 hl (k := 0) rfl (by decide) (by decide) rfl (fun ls hl => ?_)
      refine lv_goto (tgt := 18) hx hb dL_law_986 (by decide) ?_
      refine lv_iload_n hx hb dL_law_18 rfl (lv_at hl 0 rfl) ?_
      refine lv_aload_n hx hb dL_law_19 rfl (lv_at hl 3 rfl) ?_
      refine va_slen hx hb hX hbl hbA hS dL_law_20 ?_
      refine tk_i 6 (by decide) ?_
      refine lv_bipush (v := 6) hx hb dL_law_21 (by decide) ?_
      refine lv_isub hx hb dL_law_23 ?_
      refine tk_i 0 (by decide) ?_
      refine lv_icmp_gt (tgt := 989) hx hb dL_law_24 (by decide) (fun _ => ?_) (fun c9_ => absurd (by decide) c9_)
      refine lv_iconst (v := 1) hx hb dL_law_989 (by decide) ?_
      refine va_forget (fun q hq => by have h := hS.2.2 q hq; rw [hAe] at h; exact h) ?_
      refine W.widen (k := 600000) (n := 7302249) (Nat.le_of_ble_eq_true rfl) (Nat.le_of_ble_eq_true rfl) ?_
      exact lw_ret hx hb hr hlocks dL_law_990
    · skip
      exfalso
      have z0_ := tz_eq_r rfl (show (0 : Int32).toInt = 0 by decide)
      have z1_ := tz_eq_r c4083_ (show (1 : Int32).toInt = 1 by decide)
      omega
    · skip
      exfalso
      have z0_ := tz_eq_r rfl (show (0 : Int32).toInt = 0 by decide)
      have z1_ := tz_eq_r c4084_ (show (2 : Int32).toInt = 2 by decide)
      omega
    · skip
      exfalso
      have z0_ := tz_eq_r rfl (show (0 : Int32).toInt = 0 by decide)
      have z1_ := tz_eq_r c4085_ (show (3 : Int32).toInt = 3 by decide)
      omega
    · skip
      exfalso
      have z0_ := tz_eq_r rfl (show (0 : Int32).toInt = 0 by decide)
      have z1_ := tz_eq_r c4086_ (show (4 : Int32).toInt = 4 by decide)
      omega
    · skip
      exfalso
      have z0_ := tz_eq_r rfl (show (0 : Int32).toInt = 0 by decide)
      have z1_ := tz_eq_r c4087_ (show (5 : Int32).toInt = 5 by decide)
      omega
    · skip
      exfalso
      have z0_ := tz_eq_r rfl (show (0 : Int32).toInt = 0 by decide)
      have z1_ := tz_eq_r c4088_ (show (6 : Int32).toInt = 6 by decide)
      omega
    · skip
      exfalso
      have z0_ := tz_eq_r rfl (show (0 : Int32).toInt = 0 by decide)
      have z1_ := tz_eq_r c4089_ (show (7 : Int32).toInt = 7 by decide)
      omega
    · skip
      exfalso
      have z0_ := tz_eq_r rfl (show (0 : Int32).toInt = 0 by decide)
      have z1_ := tz_eq_r c4090_ (show (8 : Int32).toInt = 8 by decide)
      omega
    · skip
      exfalso
      have z0_ := tz_eq_r rfl (show (0 : Int32).toInt = 0 by decide)
      have z1_ := tz_eq_r c4091_ (show (9 : Int32).toInt = 9 by decide)
      omega
    · skip
      exfalso
      have z0_ := tz_eq_r rfl (show (0 : Int32).toInt = 0 by decide)
      have z1_ := tz_eq_r c4092_ (show (10 : Int32).toInt = 10 by decide)
      omega
    · skip
      exfalso
      have z0_ := tz_eq_r rfl (show (0 : Int32).toInt = 0 by decide)
      have z1_ := tz_eq_r c4093_ (show (11 : Int32).toInt = 11 by decide)
      omega
    · skip
      exfalso
      have z0_ := tz_eq_r rfl (show (0 : Int32).toInt = 0 by decide)
      have z1_ := tz_eq_r c4094_ (show (12 : Int32).toInt = 12 by decide)
      omega
    · skip
      exfalso
      have z0_ := tz_eq_r rfl (show (0 : Int32).toInt = 0 by decide)
      have z1_ := tz_eq_r c4095_ (show (13 : Int32).toInt = 13 by decide)
      omega
    · skip
      exfalso
      have z0_ := tz_eq_r rfl (show (0 : Int32).toInt = 0 by decide)
      have z1_ := tz_neq_r c4096_ (show (0 : Int32).toInt = 0 by decide)
      omega
    · skip
      exfalso
      have z0_ := tz_eq_r rfl (show (0 : Int32).toInt = 0 by decide)
      have z1_ := tz_neq_r c4111_ (show (0 : Int32).toInt = 0 by decide)
      omega
    · skip
      exfalso
      have z0_ := tz_eq_r rfl (show (0 : Int32).toInt = 0 by decide)
      have z1_ := tz_neq_r c4127_ (show (0 : Int32).toInt = 0 by decide)
      omega
  · skip
    subst c4022_
    refine lv_aload_n hx hb dL_law_956 rfl (lv_at hl 1 rfl) ?_
    refine lv_aload_n hx hb dL_law_957 rfl (lv_at hl 3 rfl) ?_
    refine lv_iload_n hx hb dL_law_958 rfl (lv_at hl 0 rfl) ?_
    refine lv_iconst (v := 1) hx hb dL_law_959 (by decide) ?_
    refine lv_iadd hx hb dL_law_960 ?_
    refine tk_i 1 (by decide) ?_
    refine va_sld hx hb hX hbl hbA hS (show ¬ ((1 : Int32) < 0 ∨ 6 ≤ Int32.toNatClampNeg 1) by decide) dL_law_961 ?_
    refine tk_i x1 ex1 ?_
    have hPc : va_P (dC, dI) vwCl (mw b cy) _ := hP.sub [56, 57, 58, 59, 60, 61, 62, 63] rfl
    have hDc := hD.sub (ws' := mw b cy) [56, 57, 58, 59, 60, 61, 62, 63] (by decide) rfl
    have hFc := va_free (wc := mw b cy) hD hS hA [56, 57, 58, 59, 60, 61, 62, 63] rfl
    refine va_calli (va_runV (As := [.int x1]) (rest := [.int 1]) ⟨hx, hb, hml, hown, hts⟩ (c_X12_count l dC dI cy b _ x1) (cwV 1 hts g_L_law_X12_count_130 rfl rfl rfl (by decide +kernel) ⟨Nat.le_of_ble_eq_true rfl, Nat.le_of_ble_eq_true rfl⟩) (pv_ps hC hPc hDc (ci := 12) (q0 := 0) rfl rfl) rfl rfl hl.1 rfl (lv_room (Nat.le_of_ble_eq_true rfl)) dL_law_962 ⟨Nat.le_of_ble_eq_true rfl, Nat.le_of_ble_eq_true rfl⟩) hS (fun q _ h => hFc q h) hFc (fun r_ u t_ H1 locs ht hvm hw hB hz1 hk1 hS => ?_)
    obtain ⟨hP, hD⟩ := va_join (wr := []) (w1 := []) hP hD [56, 57, 58, 59, 60, 61, 62, 63] [] rfl rfl (by decide) (by decide) hk1 hFc va_P0 va_D0
    generalize H1 = H at hP hS ⊢
    have hP : va_P (dC, dI) vwCl ([]) H := hP
    have hD : va_D A ([]) := hD
    rcases hw with ⟨c4143_, rfl⟩ | ⟨c4144_, rfl⟩ | ⟨c4145_, rfl⟩ | ⟨c4146_, rfl⟩ | ⟨c4147_, rfl⟩ | ⟨c4148_, rfl⟩ | ⟨c4149_, rfl⟩ | ⟨c4150_, rfl⟩ | ⟨c4151_, rfl⟩ | ⟨c4152_, rfl⟩ | ⟨c4153_, rfl⟩ | ⟨c4154_, rfl⟩ | ⟨c4155_, rfl⟩ | ⟨c4156_, rfl⟩ | ⟨c4157_, c4158_, c4159_, c4160_, c4161_, c4162_, c4163_, c4164_, c4165_, c4166_, c4167_, c4168_, c4169_, c4170_, c4171_, rfl⟩ | ⟨c4172_, c4173_, c4174_, c4175_, c4176_, c4177_, c4178_, c4179_, c4180_, c4181_, c4182_, c4183_, c4184_, c4185_, c4186_, c4187_, rfl⟩ | ⟨c4188_, c4189_, c4190_, c4191_, c4192_, c4193_, c4194_, c4195_, c4196_, c4197_, c4198_, c4199_, c4200_, c4201_, c4202_, c4203_, rfl⟩
    · skip
      exfalso
      have z0_ := tz_eq_r rfl (show (1 : Int32).toInt = 1 by decide)
      have z1_ := tz_eq_r c4143_ (show (0 : Int32).toInt = 0 by decide)
      omega
    · skip
      refine lv_icmp_eq (tgt := 983) hx hb dL_law_965 (by decide) (fun _ => ?_) (fun c9_ => absurd (by decide) c9_)
      refine lv_iinc (v := 6) (lv' := [(3, .int 6), (2, .ref (b 0)), (1, .ref (a 0)), (0, .ref sc)]) hx hb dL_law_983 hl (k := 0) rfl (by decide) (by decide) rfl (fun ls hl => ?_)
      refine lv_goto (tgt := 18) hx hb dL_law_986 (by decide) ?_
      refine lv_iload_n hx hb dL_law_18 rfl (lv_at hl 0 rfl) ?_
      refine lv_aload_n hx hb dL_law_19 rfl (lv_at hl 3 rfl) ?_
      refine va_slen hx hb hX hbl hbA hS dL_law_20 ?_
      refine tk_i 6 (by decide) ?_
      refine lv_bipush (v := 6) hx hb dL_law_21 (by decide) ?_
      refine lv_isub hx hb dL_law_23 ?_
      refine tk_i 0 (by decide) ?_
      refine lv_icmp_gt (tgt := 989) hx hb dL_law_24 (by decide) (fun _ => ?_) (fun c9_ => absurd (by decide) c9_)
      refine lv_iconst (v := 1) hx hb dL_law_989 (by decide) ?_
      refine va_forget (fun q hq => by have h := hS.2.2 q hq; rw [hAe] at h; exact h) ?_
      refine W.widen (k := 600000) (n := 7302249) (Nat.le_of_ble_eq_true rfl) (Nat.le_of_ble_eq_true rfl) ?_
      exact lw_ret hx hb hr hlocks dL_law_990
    · skip
      exfalso
      have z0_ := tz_eq_r rfl (show (1 : Int32).toInt = 1 by decide)
      have z1_ := tz_eq_r c4145_ (show (2 : Int32).toInt = 2 by decide)
      omega
    · skip
      exfalso
      have z0_ := tz_eq_r rfl (show (1 : Int32).toInt = 1 by decide)
      have z1_ := tz_eq_r c4146_ (show (3 : Int32).toInt = 3 by decide)
      omega
    · skip
      exfalso
      have z0_ := tz_eq_r rfl (show (1 : Int32).toInt = 1 by decide)
      have z1_ := tz_eq_r c4147_ (show (4 : Int32).toInt = 4 by decide)
      omega
    · skip
      exfalso
      have z0_ := tz_eq_r rfl (show (1 : Int32).toInt = 1 by decide)
      have z1_ := tz_eq_r c4148_ (show (5 : Int32).toInt = 5 by decide)
      omega
    · skip
      exfalso
      have z0_ := tz_eq_r rfl (show (1 : Int32).toInt = 1 by decide)
      have z1_ := tz_eq_r c4149_ (show (6 : Int32).toInt = 6 by decide)
      omega
    · skip
      exfalso
      have z0_ := tz_eq_r rfl (show (1 : Int32).toInt = 1 by decide)
      have z1_ := tz_eq_r c4150_ (show (7 : Int32).toInt = 7 by decide)
      omega
    · skip
      exfalso
      have z0_ := tz_eq_r rfl (show (1 : Int32).toInt = 1 by decide)
      have z1_ := tz_eq_r c4151_ (show (8 : Int32).toInt = 8 by decide)
      omega
    · skip
      exfalso
      have z0_ := tz_eq_r rfl (show (1 : Int32).toInt = 1 by decide)
      have z1_ := tz_eq_r c4152_ (show (9 : Int32).toInt = 9 by decide)
      omega
    · skip
      exfalso
      have z0_ := tz_eq_r rfl (show (1 : Int32).toInt = 1 by decide)
      have z1_ := tz_eq_r c4153_ (show (10 : Int32).toInt = 10 by decide)
      omega
    · skip
      exfalso
      have z0_ := tz_eq_r rfl (show (1 : Int32).toInt = 1 by decide)
      have z1_ := tz_eq_r c4154_ (show (11 : Int32).toInt = 11 by decide)
      omega
    · skip
      exfalso
      have z0_ := tz_eq_r rfl (show (1 : Int32).toInt = 1 by decide)
      have z1_ := tz_eq_r c4155_ (show (12 : Int32).toInt = 12 by decide)
      omega
    · skip
      exfalso
      have z0_ := tz_eq_r rfl (show (1 : Int32).toInt = 1 by decide)
      have z1_ := tz_eq_r c4156_ (show (13 : Int32).toInt = 13 by decide)
      omega
    · skip
      subst rfl
      exfalso
      have z0_ := tz_eq_r rfl (show (1 : Int32).toInt = 1 by decide)
      have z1_ := tz_neq_r c4158_ (show (1 : Int32).toInt = 1 by decide)
      omega
    · skip
      subst rfl
      exfalso
      have z0_ := tz_eq_r rfl (show (1 : Int32).toInt = 1 by decide)
      have z1_ := tz_neq_r c4173_ (show (1 : Int32).toInt = 1 by decide)
      omega
    · skip
      subst rfl
      exfalso
      have z0_ := tz_eq_r rfl (show (1 : Int32).toInt = 1 by decide)
      have z1_ := tz_neq_r c4189_ (show (1 : Int32).toInt = 1 by decide)
      omega
  · skip
    subst c4023_
    refine lv_aload_n hx hb dL_law_956 rfl (lv_at hl 1 rfl) ?_
    refine lv_aload_n hx hb dL_law_957 rfl (lv_at hl 3 rfl) ?_
    refine lv_iload_n hx hb dL_law_958 rfl (lv_at hl 0 rfl) ?_
    refine lv_iconst (v := 1) hx hb dL_law_959 (by decide) ?_
    refine lv_iadd hx hb dL_law_960 ?_
    refine tk_i 1 (by decide) ?_
    refine va_sld hx hb hX hbl hbA hS (show ¬ ((1 : Int32) < 0 ∨ 6 ≤ Int32.toNatClampNeg 1) by decide) dL_law_961 ?_
    refine tk_i x1 ex1 ?_
    have hPc : va_P (dC, dI) vwCl (mw b cy) _ := hP.sub [56, 57, 58, 59, 60, 61, 62, 63] rfl
    have hDc := hD.sub (ws' := mw b cy) [56, 57, 58, 59, 60, 61, 62, 63] (by decide) rfl
    have hFc := va_free (wc := mw b cy) hD hS hA [56, 57, 58, 59, 60, 61, 62, 63] rfl
    refine va_calli (va_runV (As := [.int x1]) (rest := [.int 0]) ⟨hx, hb, hml, hown, hts⟩ (c_X12_count l dC dI cy b _ x1) (cwV 1 hts g_L_law_X12_count_130 rfl rfl rfl (by decide +kernel) ⟨Nat.le_of_ble_eq_true rfl, Nat.le_of_ble_eq_true rfl⟩) (pv_ps hC hPc hDc (ci := 12) (q0 := 0) rfl rfl) rfl rfl hl.1 rfl (lv_room (Nat.le_of_ble_eq_true rfl)) dL_law_962 ⟨Nat.le_of_ble_eq_true rfl, Nat.le_of_ble_eq_true rfl⟩) hS (fun q _ h => hFc q h) hFc (fun r_ u t_ H1 locs ht hvm hw hB hz1 hk1 hS => ?_)
    obtain ⟨hP, hD⟩ := va_join (wr := []) (w1 := []) hP hD [56, 57, 58, 59, 60, 61, 62, 63] [] rfl rfl (by decide) (by decide) hk1 hFc va_P0 va_D0
    generalize H1 = H at hP hS ⊢
    have hP : va_P (dC, dI) vwCl ([]) H := hP
    have hD : va_D A ([]) := hD
    rcases hw with ⟨c4204_, rfl⟩ | ⟨c4205_, rfl⟩ | ⟨c4206_, rfl⟩ | ⟨c4207_, rfl⟩ | ⟨c4208_, rfl⟩ | ⟨c4209_, rfl⟩ | ⟨c4210_, rfl⟩ | ⟨c4211_, rfl⟩ | ⟨c4212_, rfl⟩ | ⟨c4213_, rfl⟩ | ⟨c4214_, rfl⟩ | ⟨c4215_, rfl⟩ | ⟨c4216_, rfl⟩ | ⟨c4217_, rfl⟩ | ⟨c4218_, c4219_, c4220_, c4221_, c4222_, c4223_, c4224_, c4225_, c4226_, c4227_, c4228_, c4229_, c4230_, c4231_, c4232_, rfl⟩ | ⟨c4233_, c4234_, c4235_, c4236_, c4237_, c4238_, c4239_, c4240_, c4241_, c4242_, c4243_, c4244_, c4245_, c4246_, c4247_, c4248_, rfl⟩ | ⟨c4249_, c4250_, c4251_, c4252_, c4253_, c4254_, c4255_, c4256_, c4257_, c4258_, c4259_, c4260_, c4261_, c4262_, c4263_, c4264_, rfl⟩
    · skip
      exfalso
      have z0_ := tz_eq_r rfl (show (2 : Int32).toInt = 2 by decide)
      have z1_ := tz_eq_r c4204_ (show (0 : Int32).toInt = 0 by decide)
      omega
    · skip
      exfalso
      have z0_ := tz_eq_r rfl (show (2 : Int32).toInt = 2 by decide)
      have z1_ := tz_eq_r c4205_ (show (1 : Int32).toInt = 1 by decide)
      omega
    · skip
      refine lv_icmp_eq (tgt := 983) hx hb dL_law_965 (by decide) (fun _ => ?_) (fun c9_ => absurd (by decide) c9_)
      refine lv_iinc (v := 6) (lv' := [(3, .int 6), (2, .ref (b 0)), (1, .ref (a 0)), (0, .ref sc)]) hx hb dL_law_983 hl (k := 0) rfl (by decide) (by decide) rfl (fun ls hl => ?_)
      refine lv_goto (tgt := 18) hx hb dL_law_986 (by decide) ?_
      refine lv_iload_n hx hb dL_law_18 rfl (lv_at hl 0 rfl) ?_
      refine lv_aload_n hx hb dL_law_19 rfl (lv_at hl 3 rfl) ?_
      refine va_slen hx hb hX hbl hbA hS dL_law_20 ?_
      refine tk_i 6 (by decide) ?_
      refine lv_bipush (v := 6) hx hb dL_law_21 (by decide) ?_
      refine lv_isub hx hb dL_law_23 ?_
      refine tk_i 0 (by decide) ?_
      refine lv_icmp_gt (tgt := 989) hx hb dL_law_24 (by decide) (fun _ => ?_) (fun c9_ => absurd (by decide) c9_)
      refine lv_iconst (v := 1) hx hb dL_law_989 (by decide) ?_
      refine va_forget (fun q hq => by have h := hS.2.2 q hq; rw [hAe] at h; exact h) ?_
      refine W.widen (k := 600000) (n := 7302249) (Nat.le_of_ble_eq_true rfl) (Nat.le_of_ble_eq_true rfl) ?_
      exact lw_ret hx hb hr hlocks dL_law_990
    · skip
      exfalso
      have z0_ := tz_eq_r rfl (show (2 : Int32).toInt = 2 by decide)
      have z1_ := tz_eq_r c4207_ (show (3 : Int32).toInt = 3 by decide)
      omega
    · skip
      exfalso
      have z0_ := tz_eq_r rfl (show (2 : Int32).toInt = 2 by decide)
      have z1_ := tz_eq_r c4208_ (show (4 : Int32).toInt = 4 by decide)
      omega
    · skip
      exfalso
      have z0_ := tz_eq_r rfl (show (2 : Int32).toInt = 2 by decide)
      have z1_ := tz_eq_r c4209_ (show (5 : Int32).toInt = 5 by decide)
      omega
    · skip
      exfalso
      have z0_ := tz_eq_r rfl (show (2 : Int32).toInt = 2 by decide)
      have z1_ := tz_eq_r c4210_ (show (6 : Int32).toInt = 6 by decide)
      omega
    · skip
      exfalso
      have z0_ := tz_eq_r rfl (show (2 : Int32).toInt = 2 by decide)
      have z1_ := tz_eq_r c4211_ (show (7 : Int32).toInt = 7 by decide)
      omega
    · skip
      exfalso
      have z0_ := tz_eq_r rfl (show (2 : Int32).toInt = 2 by decide)
      have z1_ := tz_eq_r c4212_ (show (8 : Int32).toInt = 8 by decide)
      omega
    · skip
      exfalso
      have z0_ := tz_eq_r rfl (show (2 : Int32).toInt = 2 by decide)
      have z1_ := tz_eq_r c4213_ (show (9 : Int32).toInt = 9 by decide)
      omega
    · skip
      exfalso
      have z0_ := tz_eq_r rfl (show (2 : Int32).toInt = 2 by decide)
      have z1_ := tz_eq_r c4214_ (show (10 : Int32).toInt = 10 by decide)
      omega
    · skip
      exfalso
      have z0_ := tz_eq_r rfl (show (2 : Int32).toInt = 2 by decide)
      have z1_ := tz_eq_r c4215_ (show (11 : Int32).toInt = 11 by decide)
      omega
    · skip
      exfalso
      have z0_ := tz_eq_r rfl (show (2 : Int32).toInt = 2 by decide)
      have z1_ := tz_eq_r c4216_ (show (12 : Int32).toInt = 12 by decide)
      omega
    · skip
      exfalso
      have z0_ := tz_eq_r rfl (show (2 : Int32).toInt = 2 by decide)
      have z1_ := tz_eq_r c4217_ (show (13 : Int32).toInt = 13 by decide)
      omega
    · skip
      subst rfl
      subst rfl
      exfalso
      have z0_ := tz_eq_r rfl (show (2 : Int32).toInt = 2 by decide)
      have z1_ := tz_neq_r c4220_ (show (2 : Int32).toInt = 2 by decide)
      omega
    · skip
      subst rfl
      subst rfl
      exfalso
      have z0_ := tz_eq_r rfl (show (2 : Int32).toInt = 2 by decide)
      have z1_ := tz_neq_r c4235_ (show (2 : Int32).toInt = 2 by decide)
      omega
    · skip
      subst rfl
      subst rfl
      exfalso
      have z0_ := tz_eq_r rfl (show (2 : Int32).toInt = 2 by decide)
      have z1_ := tz_neq_r c4251_ (show (2 : Int32).toInt = 2 by decide)
      omega
  · skip
    subst c4024_
    refine lv_aload_n hx hb dL_law_956 rfl (lv_at hl 1 rfl) ?_
    refine lv_aload_n hx hb dL_law_957 rfl (lv_at hl 3 rfl) ?_
    refine lv_iload_n hx hb dL_law_958 rfl (lv_at hl 0 rfl) ?_
    refine lv_iconst (v := 1) hx hb dL_law_959 (by decide) ?_
    refine lv_iadd hx hb dL_law_960 ?_
    refine tk_i 1 (by decide) ?_
    refine va_sld hx hb hX hbl hbA hS (show ¬ ((1 : Int32) < 0 ∨ 6 ≤ Int32.toNatClampNeg 1) by decide) dL_law_961 ?_
    refine tk_i x1 ex1 ?_
    have hPc : va_P (dC, dI) vwCl (mw b cy) _ := hP.sub [56, 57, 58, 59, 60, 61, 62, 63] rfl
    have hDc := hD.sub (ws' := mw b cy) [56, 57, 58, 59, 60, 61, 62, 63] (by decide) rfl
    have hFc := va_free (wc := mw b cy) hD hS hA [56, 57, 58, 59, 60, 61, 62, 63] rfl
    refine va_calli (va_runV (As := [.int x1]) (rest := [.int 0]) ⟨hx, hb, hml, hown, hts⟩ (c_X12_count l dC dI cy b _ x1) (cwV 1 hts g_L_law_X12_count_130 rfl rfl rfl (by decide +kernel) ⟨Nat.le_of_ble_eq_true rfl, Nat.le_of_ble_eq_true rfl⟩) (pv_ps hC hPc hDc (ci := 12) (q0 := 0) rfl rfl) rfl rfl hl.1 rfl (lv_room (Nat.le_of_ble_eq_true rfl)) dL_law_962 ⟨Nat.le_of_ble_eq_true rfl, Nat.le_of_ble_eq_true rfl⟩) hS (fun q _ h => hFc q h) hFc (fun r_ u t_ H1 locs ht hvm hw hB hz1 hk1 hS => ?_)
    obtain ⟨hP, hD⟩ := va_join (wr := []) (w1 := []) hP hD [56, 57, 58, 59, 60, 61, 62, 63] [] rfl rfl (by decide) (by decide) hk1 hFc va_P0 va_D0
    generalize H1 = H at hP hS ⊢
    have hP : va_P (dC, dI) vwCl ([]) H := hP
    have hD : va_D A ([]) := hD
    rcases hw with ⟨c4265_, rfl⟩ | ⟨c4266_, rfl⟩ | ⟨c4267_, rfl⟩ | ⟨c4268_, rfl⟩ | ⟨c4269_, rfl⟩ | ⟨c4270_, rfl⟩ | ⟨c4271_, rfl⟩ | ⟨c4272_, rfl⟩ | ⟨c4273_, rfl⟩ | ⟨c4274_, rfl⟩ | ⟨c4275_, rfl⟩ | ⟨c4276_, rfl⟩ | ⟨c4277_, rfl⟩ | ⟨c4278_, rfl⟩ | ⟨c4279_, c4280_, c4281_, c4282_, c4283_, c4284_, c4285_, c4286_, c4287_, c4288_, c4289_, c4290_, c4291_, c4292_, c4293_, rfl⟩ | ⟨c4294_, c4295_, c4296_, c4297_, c4298_, c4299_, c4300_, c4301_, c4302_, c4303_, c4304_, c4305_, c4306_, c4307_, c4308_, c4309_, rfl⟩ | ⟨c4310_, c4311_, c4312_, c4313_, c4314_, c4315_, c4316_, c4317_, c4318_, c4319_, c4320_, c4321_, c4322_, c4323_, c4324_, c4325_, rfl⟩
    · skip
      exfalso
      have z0_ := tz_eq_r rfl (show (3 : Int32).toInt = 3 by decide)
      have z1_ := tz_eq_r c4265_ (show (0 : Int32).toInt = 0 by decide)
      omega
    · skip
      exfalso
      have z0_ := tz_eq_r rfl (show (3 : Int32).toInt = 3 by decide)
      have z1_ := tz_eq_r c4266_ (show (1 : Int32).toInt = 1 by decide)
      omega
    · skip
      exfalso
      have z0_ := tz_eq_r rfl (show (3 : Int32).toInt = 3 by decide)
      have z1_ := tz_eq_r c4267_ (show (2 : Int32).toInt = 2 by decide)
      omega
    · skip
      refine lv_icmp_eq (tgt := 983) hx hb dL_law_965 (by decide) (fun _ => ?_) (fun c9_ => absurd (by decide) c9_)
      refine lv_iinc (v := 6) (lv' := [(3, .int 6), (2, .ref (b 0)), (1, .ref (a 0)), (0, .ref sc)]) hx hb dL_law_983 hl (k := 0) rfl (by decide) (by decide) rfl (fun ls hl => ?_)
      refine lv_goto (tgt := 18) hx hb dL_law_986 (by decide) ?_
      refine lv_iload_n hx hb dL_law_18 rfl (lv_at hl 0 rfl) ?_
      refine lv_aload_n hx hb dL_law_19 rfl (lv_at hl 3 rfl) ?_
      refine va_slen hx hb hX hbl hbA hS dL_law_20 ?_
      refine tk_i 6 (by decide) ?_
      refine lv_bipush (v := 6) hx hb dL_law_21 (by decide) ?_
      refine lv_isub hx hb dL_law_23 ?_
      refine tk_i 0 (by decide) ?_
      refine lv_icmp_gt (tgt := 989) hx hb dL_law_24 (by decide) (fun _ => ?_) (fun c9_ => absurd (by decide) c9_)
      refine lv_iconst (v := 1) hx hb dL_law_989 (by decide) ?_
      refine va_forget (fun q hq => by have h := hS.2.2 q hq; rw [hAe] at h; exact h) ?_
      refine W.widen (k := 600000) (n := 7302249) (Nat.le_of_ble_eq_true rfl) (Nat.le_of_ble_eq_true rfl) ?_
      exact lw_ret hx hb hr hlocks dL_law_990
    · skip
      exfalso
      have z0_ := tz_eq_r rfl (show (3 : Int32).toInt = 3 by decide)
      have z1_ := tz_eq_r c4269_ (show (4 : Int32).toInt = 4 by decide)
      omega
    · skip
      exfalso
      have z0_ := tz_eq_r rfl (show (3 : Int32).toInt = 3 by decide)
      have z1_ := tz_eq_r c4270_ (show (5 : Int32).toInt = 5 by decide)
      omega
    · skip
      exfalso
      have z0_ := tz_eq_r rfl (show (3 : Int32).toInt = 3 by decide)
      have z1_ := tz_eq_r c4271_ (show (6 : Int32).toInt = 6 by decide)
      omega
    · skip
      exfalso
      have z0_ := tz_eq_r rfl (show (3 : Int32).toInt = 3 by decide)
      have z1_ := tz_eq_r c4272_ (show (7 : Int32).toInt = 7 by decide)
      omega
    · skip
      exfalso
      have z0_ := tz_eq_r rfl (show (3 : Int32).toInt = 3 by decide)
      have z1_ := tz_eq_r c4273_ (show (8 : Int32).toInt = 8 by decide)
      omega
    · skip
      exfalso
      have z0_ := tz_eq_r rfl (show (3 : Int32).toInt = 3 by decide)
      have z1_ := tz_eq_r c4274_ (show (9 : Int32).toInt = 9 by decide)
      omega
    · skip
      exfalso
      have z0_ := tz_eq_r rfl (show (3 : Int32).toInt = 3 by decide)
      have z1_ := tz_eq_r c4275_ (show (10 : Int32).toInt = 10 by decide)
      omega
    · skip
      exfalso
      have z0_ := tz_eq_r rfl (show (3 : Int32).toInt = 3 by decide)
      have z1_ := tz_eq_r c4276_ (show (11 : Int32).toInt = 11 by decide)
      omega
    · skip
      exfalso
      have z0_ := tz_eq_r rfl (show (3 : Int32).toInt = 3 by decide)
      have z1_ := tz_eq_r c4277_ (show (12 : Int32).toInt = 12 by decide)
      omega
    · skip
      exfalso
      have z0_ := tz_eq_r rfl (show (3 : Int32).toInt = 3 by decide)
      have z1_ := tz_eq_r c4278_ (show (13 : Int32).toInt = 13 by decide)
      omega
    · skip
      subst rfl
      subst rfl
      subst rfl
      exfalso
      have z0_ := tz_eq_r rfl (show (3 : Int32).toInt = 3 by decide)
      have z1_ := tz_neq_r c4282_ (show (3 : Int32).toInt = 3 by decide)
      omega
    · skip
      subst rfl
      subst rfl
      subst rfl
      exfalso
      have z0_ := tz_eq_r rfl (show (3 : Int32).toInt = 3 by decide)
      have z1_ := tz_neq_r c4297_ (show (3 : Int32).toInt = 3 by decide)
      omega
    · skip
      subst rfl
      subst rfl
      subst rfl
      exfalso
      have z0_ := tz_eq_r rfl (show (3 : Int32).toInt = 3 by decide)
      have z1_ := tz_neq_r c4313_ (show (3 : Int32).toInt = 3 by decide)
      omega
  · skip
    subst c4025_
    refine lv_aload_n hx hb dL_law_956 rfl (lv_at hl 1 rfl) ?_
    refine lv_aload_n hx hb dL_law_957 rfl (lv_at hl 3 rfl) ?_
    refine lv_iload_n hx hb dL_law_958 rfl (lv_at hl 0 rfl) ?_
    refine lv_iconst (v := 1) hx hb dL_law_959 (by decide) ?_
    refine lv_iadd hx hb dL_law_960 ?_
    refine tk_i 1 (by decide) ?_
    refine va_sld hx hb hX hbl hbA hS (show ¬ ((1 : Int32) < 0 ∨ 6 ≤ Int32.toNatClampNeg 1) by decide) dL_law_961 ?_
    refine tk_i x1 ex1 ?_
    have hPc : va_P (dC, dI) vwCl (mw b cy) _ := hP.sub [56, 57, 58, 59, 60, 61, 62, 63] rfl
    have hDc := hD.sub (ws' := mw b cy) [56, 57, 58, 59, 60, 61, 62, 63] (by decide) rfl
    have hFc := va_free (wc := mw b cy) hD hS hA [56, 57, 58, 59, 60, 61, 62, 63] rfl
    refine va_calli (va_runV (As := [.int x1]) (rest := [.int 0]) ⟨hx, hb, hml, hown, hts⟩ (c_X12_count l dC dI cy b _ x1) (cwV 1 hts g_L_law_X12_count_130 rfl rfl rfl (by decide +kernel) ⟨Nat.le_of_ble_eq_true rfl, Nat.le_of_ble_eq_true rfl⟩) (pv_ps hC hPc hDc (ci := 12) (q0 := 0) rfl rfl) rfl rfl hl.1 rfl (lv_room (Nat.le_of_ble_eq_true rfl)) dL_law_962 ⟨Nat.le_of_ble_eq_true rfl, Nat.le_of_ble_eq_true rfl⟩) hS (fun q _ h => hFc q h) hFc (fun r_ u t_ H1 locs ht hvm hw hB hz1 hk1 hS => ?_)
    obtain ⟨hP, hD⟩ := va_join (wr := []) (w1 := []) hP hD [56, 57, 58, 59, 60, 61, 62, 63] [] rfl rfl (by decide) (by decide) hk1 hFc va_P0 va_D0
    generalize H1 = H at hP hS ⊢
    have hP : va_P (dC, dI) vwCl ([]) H := hP
    have hD : va_D A ([]) := hD
    rcases hw with ⟨c4326_, rfl⟩ | ⟨c4327_, rfl⟩ | ⟨c4328_, rfl⟩ | ⟨c4329_, rfl⟩ | ⟨c4330_, rfl⟩ | ⟨c4331_, rfl⟩ | ⟨c4332_, rfl⟩ | ⟨c4333_, rfl⟩ | ⟨c4334_, rfl⟩ | ⟨c4335_, rfl⟩ | ⟨c4336_, rfl⟩ | ⟨c4337_, rfl⟩ | ⟨c4338_, rfl⟩ | ⟨c4339_, rfl⟩ | ⟨c4340_, c4341_, c4342_, c4343_, c4344_, c4345_, c4346_, c4347_, c4348_, c4349_, c4350_, c4351_, c4352_, c4353_, c4354_, rfl⟩ | ⟨c4355_, c4356_, c4357_, c4358_, c4359_, c4360_, c4361_, c4362_, c4363_, c4364_, c4365_, c4366_, c4367_, c4368_, c4369_, c4370_, rfl⟩ | ⟨c4371_, c4372_, c4373_, c4374_, c4375_, c4376_, c4377_, c4378_, c4379_, c4380_, c4381_, c4382_, c4383_, c4384_, c4385_, c4386_, rfl⟩
    · skip
      exfalso
      have z0_ := tz_eq_r rfl (show (4 : Int32).toInt = 4 by decide)
      have z1_ := tz_eq_r c4326_ (show (0 : Int32).toInt = 0 by decide)
      omega
    · skip
      exfalso
      have z0_ := tz_eq_r rfl (show (4 : Int32).toInt = 4 by decide)
      have z1_ := tz_eq_r c4327_ (show (1 : Int32).toInt = 1 by decide)
      omega
    · skip
      exfalso
      have z0_ := tz_eq_r rfl (show (4 : Int32).toInt = 4 by decide)
      have z1_ := tz_eq_r c4328_ (show (2 : Int32).toInt = 2 by decide)
      omega
    · skip
      exfalso
      have z0_ := tz_eq_r rfl (show (4 : Int32).toInt = 4 by decide)
      have z1_ := tz_eq_r c4329_ (show (3 : Int32).toInt = 3 by decide)
      omega
    · skip
      refine lv_icmp_eq (tgt := 983) hx hb dL_law_965 (by decide) (fun _ => ?_) (fun c9_ => absurd (by decide) c9_)
      refine lv_iinc (v := 6) (lv' := [(3, .int 6), (2, .ref (b 0)), (1, .ref (a 0)), (0, .ref sc)]) hx hb dL_law_983 hl (k := 0) rfl (by decide) (by decide) rfl (fun ls hl => ?_)
      refine lv_goto (tgt := 18) hx hb dL_law_986 (by decide) ?_
      refine lv_iload_n hx hb dL_law_18 rfl (lv_at hl 0 rfl) ?_
      refine lv_aload_n hx hb dL_law_19 rfl (lv_at hl 3 rfl) ?_
      refine va_slen hx hb hX hbl hbA hS dL_law_20 ?_
      refine tk_i 6 (by decide) ?_
      refine lv_bipush (v := 6) hx hb dL_law_21 (by decide) ?_
      refine lv_isub hx hb dL_law_23 ?_
      refine tk_i 0 (by decide) ?_
      refine lv_icmp_gt (tgt := 989) hx hb dL_law_24 (by decide) (fun _ => ?_) (fun c9_ => absurd (by decide) c9_)
      refine lv_iconst (v := 1) hx hb dL_law_989 (by decide) ?_
      refine va_forget (fun q hq => by have h := hS.2.2 q hq; rw [hAe] at h; exact h) ?_
      refine W.widen (k := 600000) (n := 7302249) (Nat.le_of_ble_eq_true rfl) (Nat.le_of_ble_eq_true rfl) ?_
      exact lw_ret hx hb hr hlocks dL_law_990
    · skip
      exfalso
      have z0_ := tz_eq_r rfl (show (4 : Int32).toInt = 4 by decide)
      have z1_ := tz_eq_r c4331_ (show (5 : Int32).toInt = 5 by decide)
      omega
    · skip
      exfalso
      have z0_ := tz_eq_r rfl (show (4 : Int32).toInt = 4 by decide)
      have z1_ := tz_eq_r c4332_ (show (6 : Int32).toInt = 6 by decide)
      omega
    · skip
      exfalso
      have z0_ := tz_eq_r rfl (show (4 : Int32).toInt = 4 by decide)
      have z1_ := tz_eq_r c4333_ (show (7 : Int32).toInt = 7 by decide)
      omega
    · skip
      exfalso
      have z0_ := tz_eq_r rfl (show (4 : Int32).toInt = 4 by decide)
      have z1_ := tz_eq_r c4334_ (show (8 : Int32).toInt = 8 by decide)
      omega
    · skip
      exfalso
      have z0_ := tz_eq_r rfl (show (4 : Int32).toInt = 4 by decide)
      have z1_ := tz_eq_r c4335_ (show (9 : Int32).toInt = 9 by decide)
      omega
    · skip
      exfalso
      have z0_ := tz_eq_r rfl (show (4 : Int32).toInt = 4 by decide)
      have z1_ := tz_eq_r c4336_ (show (10 : Int32).toInt = 10 by decide)
      omega
    · skip
      exfalso
      have z0_ := tz_eq_r rfl (show (4 : Int32).toInt = 4 by decide)
      have z1_ := tz_eq_r c4337_ (show (11 : Int32).toInt = 11 by decide)
      omega
    · skip
      exfalso
      have z0_ := tz_eq_r rfl (show (4 : Int32).toInt = 4 by decide)
      have z1_ := tz_eq_r c4338_ (show (12 : Int32).toInt = 12 by decide)
      omega
    · skip
      exfalso
      have z0_ := tz_eq_r rfl (show (4 : Int32).toInt = 4 by decide)
      have z1_ := tz_eq_r c4339_ (show (13 : Int32).toInt = 13 by decide)
      omega
    · skip
      subst rfl
      subst rfl
      subst rfl
      subst rfl
      exfalso
      have z0_ := tz_eq_r rfl (show (4 : Int32).toInt = 4 by decide)
      have z1_ := tz_neq_r c4344_ (show (4 : Int32).toInt = 4 by decide)
      omega
    · skip
      subst rfl
      subst rfl
      subst rfl
      subst rfl
      exfalso
      have z0_ := tz_eq_r rfl (show (4 : Int32).toInt = 4 by decide)
      have z1_ := tz_neq_r c4359_ (show (4 : Int32).toInt = 4 by decide)
      omega
    · skip
      subst rfl
      subst rfl
      subst rfl
      subst rfl
      exfalso
      have z0_ := tz_eq_r rfl (show (4 : Int32).toInt = 4 by decide)
      have z1_ := tz_neq_r c4375_ (show (4 : Int32).toInt = 4 by decide)
      omega
  · skip
    subst c4026_
    refine lv_aload_n hx hb dL_law_956 rfl (lv_at hl 1 rfl) ?_
    refine lv_aload_n hx hb dL_law_957 rfl (lv_at hl 3 rfl) ?_
    refine lv_iload_n hx hb dL_law_958 rfl (lv_at hl 0 rfl) ?_
    refine lv_iconst (v := 1) hx hb dL_law_959 (by decide) ?_
    refine lv_iadd hx hb dL_law_960 ?_
    refine tk_i 1 (by decide) ?_
    refine va_sld hx hb hX hbl hbA hS (show ¬ ((1 : Int32) < 0 ∨ 6 ≤ Int32.toNatClampNeg 1) by decide) dL_law_961 ?_
    refine tk_i x1 ex1 ?_
    have hPc : va_P (dC, dI) vwCl (mw b cy) _ := hP.sub [56, 57, 58, 59, 60, 61, 62, 63] rfl
    have hDc := hD.sub (ws' := mw b cy) [56, 57, 58, 59, 60, 61, 62, 63] (by decide) rfl
    have hFc := va_free (wc := mw b cy) hD hS hA [56, 57, 58, 59, 60, 61, 62, 63] rfl
    refine va_calli (va_runV (As := [.int x1]) (rest := [.int 0]) ⟨hx, hb, hml, hown, hts⟩ (c_X12_count l dC dI cy b _ x1) (cwV 1 hts g_L_law_X12_count_130 rfl rfl rfl (by decide +kernel) ⟨Nat.le_of_ble_eq_true rfl, Nat.le_of_ble_eq_true rfl⟩) (pv_ps hC hPc hDc (ci := 12) (q0 := 0) rfl rfl) rfl rfl hl.1 rfl (lv_room (Nat.le_of_ble_eq_true rfl)) dL_law_962 ⟨Nat.le_of_ble_eq_true rfl, Nat.le_of_ble_eq_true rfl⟩) hS (fun q _ h => hFc q h) hFc (fun r_ u t_ H1 locs ht hvm hw hB hz1 hk1 hS => ?_)
    obtain ⟨hP, hD⟩ := va_join (wr := []) (w1 := []) hP hD [56, 57, 58, 59, 60, 61, 62, 63] [] rfl rfl (by decide) (by decide) hk1 hFc va_P0 va_D0
    generalize H1 = H at hP hS ⊢
    have hP : va_P (dC, dI) vwCl ([]) H := hP
    have hD : va_D A ([]) := hD
    rcases hw with ⟨c4387_, rfl⟩ | ⟨c4388_, rfl⟩ | ⟨c4389_, rfl⟩ | ⟨c4390_, rfl⟩ | ⟨c4391_, rfl⟩ | ⟨c4392_, rfl⟩ | ⟨c4393_, rfl⟩ | ⟨c4394_, rfl⟩ | ⟨c4395_, rfl⟩ | ⟨c4396_, rfl⟩ | ⟨c4397_, rfl⟩ | ⟨c4398_, rfl⟩ | ⟨c4399_, rfl⟩ | ⟨c4400_, rfl⟩ | ⟨c4401_, c4402_, c4403_, c4404_, c4405_, c4406_, c4407_, c4408_, c4409_, c4410_, c4411_, c4412_, c4413_, c4414_, c4415_, rfl⟩ | ⟨c4416_, c4417_, c4418_, c4419_, c4420_, c4421_, c4422_, c4423_, c4424_, c4425_, c4426_, c4427_, c4428_, c4429_, c4430_, c4431_, rfl⟩ | ⟨c4432_, c4433_, c4434_, c4435_, c4436_, c4437_, c4438_, c4439_, c4440_, c4441_, c4442_, c4443_, c4444_, c4445_, c4446_, c4447_, rfl⟩
    · skip
      exfalso
      have z0_ := tz_eq_r rfl (show (5 : Int32).toInt = 5 by decide)
      have z1_ := tz_eq_r c4387_ (show (0 : Int32).toInt = 0 by decide)
      omega
    · skip
      exfalso
      have z0_ := tz_eq_r rfl (show (5 : Int32).toInt = 5 by decide)
      have z1_ := tz_eq_r c4388_ (show (1 : Int32).toInt = 1 by decide)
      omega
    · skip
      exfalso
      have z0_ := tz_eq_r rfl (show (5 : Int32).toInt = 5 by decide)
      have z1_ := tz_eq_r c4389_ (show (2 : Int32).toInt = 2 by decide)
      omega
    · skip
      exfalso
      have z0_ := tz_eq_r rfl (show (5 : Int32).toInt = 5 by decide)
      have z1_ := tz_eq_r c4390_ (show (3 : Int32).toInt = 3 by decide)
      omega
    · skip
      exfalso
      have z0_ := tz_eq_r rfl (show (5 : Int32).toInt = 5 by decide)
      have z1_ := tz_eq_r c4391_ (show (4 : Int32).toInt = 4 by decide)
      omega
    · skip
      refine lv_icmp_eq (tgt := 983) hx hb dL_law_965 (by decide) (fun _ => ?_) (fun c9_ => absurd (by decide) c9_)
      refine lv_iinc (v := 6) (lv' := [(3, .int 6), (2, .ref (b 0)), (1, .ref (a 0)), (0, .ref sc)]) hx hb dL_law_983 hl (k := 0) rfl (by decide) (by decide) rfl (fun ls hl => ?_)
      refine lv_goto (tgt := 18) hx hb dL_law_986 (by decide) ?_
      refine lv_iload_n hx hb dL_law_18 rfl (lv_at hl 0 rfl) ?_
      refine lv_aload_n hx hb dL_law_19 rfl (lv_at hl 3 rfl) ?_
      refine va_slen hx hb hX hbl hbA hS dL_law_20 ?_
      refine tk_i 6 (by decide) ?_
      refine lv_bipush (v := 6) hx hb dL_law_21 (by decide) ?_
      refine lv_isub hx hb dL_law_23 ?_
      refine tk_i 0 (by decide) ?_
      refine lv_icmp_gt (tgt := 989) hx hb dL_law_24 (by decide) (fun _ => ?_) (fun c9_ => absurd (by decide) c9_)
      refine lv_iconst (v := 1) hx hb dL_law_989 (by decide) ?_
      refine va_forget (fun q hq => by have h := hS.2.2 q hq; rw [hAe] at h; exact h) ?_
      refine W.widen (k := 600000) (n := 7302249) (Nat.le_of_ble_eq_true rfl) (Nat.le_of_ble_eq_true rfl) ?_
      exact lw_ret hx hb hr hlocks dL_law_990
    · skip
      exfalso
      have z0_ := tz_eq_r rfl (show (5 : Int32).toInt = 5 by decide)
      have z1_ := tz_eq_r c4393_ (show (6 : Int32).toInt = 6 by decide)
      omega
    · skip
      exfalso
      have z0_ := tz_eq_r rfl (show (5 : Int32).toInt = 5 by decide)
      have z1_ := tz_eq_r c4394_ (show (7 : Int32).toInt = 7 by decide)
      omega
    · skip
      exfalso
      have z0_ := tz_eq_r rfl (show (5 : Int32).toInt = 5 by decide)
      have z1_ := tz_eq_r c4395_ (show (8 : Int32).toInt = 8 by decide)
      omega
    · skip
      exfalso
      have z0_ := tz_eq_r rfl (show (5 : Int32).toInt = 5 by decide)
      have z1_ := tz_eq_r c4396_ (show (9 : Int32).toInt = 9 by decide)
      omega
    · skip
      exfalso
      have z0_ := tz_eq_r rfl (show (5 : Int32).toInt = 5 by decide)
      have z1_ := tz_eq_r c4397_ (show (10 : Int32).toInt = 10 by decide)
      omega
    · skip
      exfalso
      have z0_ := tz_eq_r rfl (show (5 : Int32).toInt = 5 by decide)
      have z1_ := tz_eq_r c4398_ (show (11 : Int32).toInt = 11 by decide)
      omega
    · skip
      exfalso
      have z0_ := tz_eq_r rfl (show (5 : Int32).toInt = 5 by decide)
      have z1_ := tz_eq_r c4399_ (show (12 : Int32).toInt = 12 by decide)
      omega
    · skip
      exfalso
      have z0_ := tz_eq_r rfl (show (5 : Int32).toInt = 5 by decide)
      have z1_ := tz_eq_r c4400_ (show (13 : Int32).toInt = 13 by decide)
      omega
    · skip
      subst rfl
      subst rfl
      subst rfl
      subst rfl
      subst rfl
      exfalso
      have z0_ := tz_eq_r rfl (show (5 : Int32).toInt = 5 by decide)
      have z1_ := tz_neq_r c4406_ (show (5 : Int32).toInt = 5 by decide)
      omega
    · skip
      subst rfl
      subst rfl
      subst rfl
      subst rfl
      subst rfl
      exfalso
      have z0_ := tz_eq_r rfl (show (5 : Int32).toInt = 5 by decide)
      have z1_ := tz_neq_r c4421_ (show (5 : Int32).toInt = 5 by decide)
      omega
    · skip
      subst rfl
      subst rfl
      subst rfl
      subst rfl
      subst rfl
      exfalso
      have z0_ := tz_eq_r rfl (show (5 : Int32).toInt = 5 by decide)
      have z1_ := tz_neq_r c4437_ (show (5 : Int32).toInt = 5 by decide)
      omega
  · skip
    subst c4027_
    refine lv_aload_n hx hb dL_law_956 rfl (lv_at hl 1 rfl) ?_
    refine lv_aload_n hx hb dL_law_957 rfl (lv_at hl 3 rfl) ?_
    refine lv_iload_n hx hb dL_law_958 rfl (lv_at hl 0 rfl) ?_
    refine lv_iconst (v := 1) hx hb dL_law_959 (by decide) ?_
    refine lv_iadd hx hb dL_law_960 ?_
    refine tk_i 1 (by decide) ?_
    refine va_sld hx hb hX hbl hbA hS (show ¬ ((1 : Int32) < 0 ∨ 6 ≤ Int32.toNatClampNeg 1) by decide) dL_law_961 ?_
    refine tk_i x1 ex1 ?_
    have hPc : va_P (dC, dI) vwCl (mw b cy) _ := hP.sub [56, 57, 58, 59, 60, 61, 62, 63] rfl
    have hDc := hD.sub (ws' := mw b cy) [56, 57, 58, 59, 60, 61, 62, 63] (by decide) rfl
    have hFc := va_free (wc := mw b cy) hD hS hA [56, 57, 58, 59, 60, 61, 62, 63] rfl
    refine va_calli (va_runV (As := [.int x1]) (rest := [.int 0]) ⟨hx, hb, hml, hown, hts⟩ (c_X12_count l dC dI cy b _ x1) (cwV 1 hts g_L_law_X12_count_130 rfl rfl rfl (by decide +kernel) ⟨Nat.le_of_ble_eq_true rfl, Nat.le_of_ble_eq_true rfl⟩) (pv_ps hC hPc hDc (ci := 12) (q0 := 0) rfl rfl) rfl rfl hl.1 rfl (lv_room (Nat.le_of_ble_eq_true rfl)) dL_law_962 ⟨Nat.le_of_ble_eq_true rfl, Nat.le_of_ble_eq_true rfl⟩) hS (fun q _ h => hFc q h) hFc (fun r_ u t_ H1 locs ht hvm hw hB hz1 hk1 hS => ?_)
    obtain ⟨hP, hD⟩ := va_join (wr := []) (w1 := []) hP hD [56, 57, 58, 59, 60, 61, 62, 63] [] rfl rfl (by decide) (by decide) hk1 hFc va_P0 va_D0
    generalize H1 = H at hP hS ⊢
    have hP : va_P (dC, dI) vwCl ([]) H := hP
    have hD : va_D A ([]) := hD
    rcases hw with ⟨c4448_, rfl⟩ | ⟨c4449_, rfl⟩ | ⟨c4450_, rfl⟩ | ⟨c4451_, rfl⟩ | ⟨c4452_, rfl⟩ | ⟨c4453_, rfl⟩ | ⟨c4454_, rfl⟩ | ⟨c4455_, rfl⟩ | ⟨c4456_, rfl⟩ | ⟨c4457_, rfl⟩ | ⟨c4458_, rfl⟩ | ⟨c4459_, rfl⟩ | ⟨c4460_, rfl⟩ | ⟨c4461_, rfl⟩ | ⟨c4462_, c4463_, c4464_, c4465_, c4466_, c4467_, c4468_, c4469_, c4470_, c4471_, c4472_, c4473_, c4474_, c4475_, c4476_, rfl⟩ | ⟨c4477_, c4478_, c4479_, c4480_, c4481_, c4482_, c4483_, c4484_, c4485_, c4486_, c4487_, c4488_, c4489_, c4490_, c4491_, c4492_, rfl⟩ | ⟨c4493_, c4494_, c4495_, c4496_, c4497_, c4498_, c4499_, c4500_, c4501_, c4502_, c4503_, c4504_, c4505_, c4506_, c4507_, c4508_, rfl⟩
    · skip
      exfalso
      have z0_ := tz_eq_r rfl (show (6 : Int32).toInt = 6 by decide)
      have z1_ := tz_eq_r c4448_ (show (0 : Int32).toInt = 0 by decide)
      omega
    · skip
      exfalso
      have z0_ := tz_eq_r rfl (show (6 : Int32).toInt = 6 by decide)
      have z1_ := tz_eq_r c4449_ (show (1 : Int32).toInt = 1 by decide)
      omega
    · skip
      exfalso
      have z0_ := tz_eq_r rfl (show (6 : Int32).toInt = 6 by decide)
      have z1_ := tz_eq_r c4450_ (show (2 : Int32).toInt = 2 by decide)
      omega
    · skip
      exfalso
      have z0_ := tz_eq_r rfl (show (6 : Int32).toInt = 6 by decide)
      have z1_ := tz_eq_r c4451_ (show (3 : Int32).toInt = 3 by decide)
      omega
    · skip
      exfalso
      have z0_ := tz_eq_r rfl (show (6 : Int32).toInt = 6 by decide)
      have z1_ := tz_eq_r c4452_ (show (4 : Int32).toInt = 4 by decide)
      omega
    · skip
      exfalso
      have z0_ := tz_eq_r rfl (show (6 : Int32).toInt = 6 by decide)
      have z1_ := tz_eq_r c4453_ (show (5 : Int32).toInt = 5 by decide)
      omega
    · skip
      refine lv_icmp_eq (tgt := 983) hx hb dL_law_965 (by decide) (fun _ => ?_) (fun c9_ => absurd (by decide) c9_)
      refine lv_iinc (v := 6) (lv' := [(3, .int 6), (2, .ref (b 0)), (1, .ref (a 0)), (0, .ref sc)]) hx hb dL_law_983 hl (k := 0) rfl (by decide) (by decide) rfl (fun ls hl => ?_)
      refine lv_goto (tgt := 18) hx hb dL_law_986 (by decide) ?_
      refine lv_iload_n hx hb dL_law_18 rfl (lv_at hl 0 rfl) ?_
      refine lv_aload_n hx hb dL_law_19 rfl (lv_at hl 3 rfl) ?_
      refine va_slen hx hb hX hbl hbA hS dL_law_20 ?_
      refine tk_i 6 (by decide) ?_
      refine lv_bipush (v := 6) hx hb dL_law_21 (by decide) ?_
      refine lv_isub hx hb dL_law_23 ?_
      refine tk_i 0 (by decide) ?_
      refine lv_icmp_gt (tgt := 989) hx hb dL_law_24 (by decide) (fun _ => ?_) (fun c9_ => absurd (by decide) c9_)
      refine lv_iconst (v := 1) hx hb dL_law_989 (by decide) ?_
      refine va_forget (fun q hq => by have h := hS.2.2 q hq; rw [hAe] at h; exact h) ?_
      refine W.widen (k := 600000) (n := 7302249) (Nat.le_of_ble_eq_true rfl) (Nat.le_of_ble_eq_true rfl) ?_
      exact lw_ret hx hb hr hlocks dL_law_990
    · skip
      exfalso
      have z0_ := tz_eq_r rfl (show (6 : Int32).toInt = 6 by decide)
      have z1_ := tz_eq_r c4455_ (show (7 : Int32).toInt = 7 by decide)
      omega
    · skip
      exfalso
      have z0_ := tz_eq_r rfl (show (6 : Int32).toInt = 6 by decide)
      have z1_ := tz_eq_r c4456_ (show (8 : Int32).toInt = 8 by decide)
      omega
    · skip
      exfalso
      have z0_ := tz_eq_r rfl (show (6 : Int32).toInt = 6 by decide)
      have z1_ := tz_eq_r c4457_ (show (9 : Int32).toInt = 9 by decide)
      omega
    · skip
      exfalso
      have z0_ := tz_eq_r rfl (show (6 : Int32).toInt = 6 by decide)
      have z1_ := tz_eq_r c4458_ (show (10 : Int32).toInt = 10 by decide)
      omega
    · skip
      exfalso
      have z0_ := tz_eq_r rfl (show (6 : Int32).toInt = 6 by decide)
      have z1_ := tz_eq_r c4459_ (show (11 : Int32).toInt = 11 by decide)
      omega
    · skip
      exfalso
      have z0_ := tz_eq_r rfl (show (6 : Int32).toInt = 6 by decide)
      have z1_ := tz_eq_r c4460_ (show (12 : Int32).toInt = 12 by decide)
      omega
    · skip
      exfalso
      have z0_ := tz_eq_r rfl (show (6 : Int32).toInt = 6 by decide)
      have z1_ := tz_eq_r c4461_ (show (13 : Int32).toInt = 13 by decide)
      omega
    · skip
      subst rfl
      subst rfl
      subst rfl
      subst rfl
      subst rfl
      subst rfl
      exfalso
      have z0_ := tz_eq_r rfl (show (6 : Int32).toInt = 6 by decide)
      have z1_ := tz_neq_r c4468_ (show (6 : Int32).toInt = 6 by decide)
      omega
    · skip
      subst rfl
      subst rfl
      subst rfl
      subst rfl
      subst rfl
      subst rfl
      exfalso
      have z0_ := tz_eq_r rfl (show (6 : Int32).toInt = 6 by decide)
      have z1_ := tz_neq_r c4483_ (show (6 : Int32).toInt = 6 by decide)
      omega
    · skip
      subst rfl
      subst rfl
      subst rfl
      subst rfl
      subst rfl
      subst rfl
      exfalso
      have z0_ := tz_eq_r rfl (show (6 : Int32).toInt = 6 by decide)
      have z1_ := tz_neq_r c4499_ (show (6 : Int32).toInt = 6 by decide)
      omega
  · skip
    subst c4028_
    refine lv_aload_n hx hb dL_law_956 rfl (lv_at hl 1 rfl) ?_
    refine lv_aload_n hx hb dL_law_957 rfl (lv_at hl 3 rfl) ?_
    refine lv_iload_n hx hb dL_law_958 rfl (lv_at hl 0 rfl) ?_
    refine lv_iconst (v := 1) hx hb dL_law_959 (by decide) ?_
    refine lv_iadd hx hb dL_law_960 ?_
    refine tk_i 1 (by decide) ?_
    refine va_sld hx hb hX hbl hbA hS (show ¬ ((1 : Int32) < 0 ∨ 6 ≤ Int32.toNatClampNeg 1) by decide) dL_law_961 ?_
    refine tk_i x1 ex1 ?_
    have hPc : va_P (dC, dI) vwCl (mw b cy) _ := hP.sub [56, 57, 58, 59, 60, 61, 62, 63] rfl
    have hDc := hD.sub (ws' := mw b cy) [56, 57, 58, 59, 60, 61, 62, 63] (by decide) rfl
    have hFc := va_free (wc := mw b cy) hD hS hA [56, 57, 58, 59, 60, 61, 62, 63] rfl
    refine va_calli (va_runV (As := [.int x1]) (rest := [.int 0]) ⟨hx, hb, hml, hown, hts⟩ (c_X12_count l dC dI cy b _ x1) (cwV 1 hts g_L_law_X12_count_130 rfl rfl rfl (by decide +kernel) ⟨Nat.le_of_ble_eq_true rfl, Nat.le_of_ble_eq_true rfl⟩) (pv_ps hC hPc hDc (ci := 12) (q0 := 0) rfl rfl) rfl rfl hl.1 rfl (lv_room (Nat.le_of_ble_eq_true rfl)) dL_law_962 ⟨Nat.le_of_ble_eq_true rfl, Nat.le_of_ble_eq_true rfl⟩) hS (fun q _ h => hFc q h) hFc (fun r_ u t_ H1 locs ht hvm hw hB hz1 hk1 hS => ?_)
    obtain ⟨hP, hD⟩ := va_join (wr := []) (w1 := []) hP hD [56, 57, 58, 59, 60, 61, 62, 63] [] rfl rfl (by decide) (by decide) hk1 hFc va_P0 va_D0
    generalize H1 = H at hP hS ⊢
    have hP : va_P (dC, dI) vwCl ([]) H := hP
    have hD : va_D A ([]) := hD
    rcases hw with ⟨c4509_, rfl⟩ | ⟨c4510_, rfl⟩ | ⟨c4511_, rfl⟩ | ⟨c4512_, rfl⟩ | ⟨c4513_, rfl⟩ | ⟨c4514_, rfl⟩ | ⟨c4515_, rfl⟩ | ⟨c4516_, rfl⟩ | ⟨c4517_, rfl⟩ | ⟨c4518_, rfl⟩ | ⟨c4519_, rfl⟩ | ⟨c4520_, rfl⟩ | ⟨c4521_, rfl⟩ | ⟨c4522_, rfl⟩ | ⟨c4523_, c4524_, c4525_, c4526_, c4527_, c4528_, c4529_, c4530_, c4531_, c4532_, c4533_, c4534_, c4535_, c4536_, c4537_, rfl⟩ | ⟨c4538_, c4539_, c4540_, c4541_, c4542_, c4543_, c4544_, c4545_, c4546_, c4547_, c4548_, c4549_, c4550_, c4551_, c4552_, c4553_, rfl⟩ | ⟨c4554_, c4555_, c4556_, c4557_, c4558_, c4559_, c4560_, c4561_, c4562_, c4563_, c4564_, c4565_, c4566_, c4567_, c4568_, c4569_, rfl⟩
    · skip
      exfalso
      have z0_ := tz_eq_r rfl (show (7 : Int32).toInt = 7 by decide)
      have z1_ := tz_eq_r c4509_ (show (0 : Int32).toInt = 0 by decide)
      omega
    · skip
      exfalso
      have z0_ := tz_eq_r rfl (show (7 : Int32).toInt = 7 by decide)
      have z1_ := tz_eq_r c4510_ (show (1 : Int32).toInt = 1 by decide)
      omega
    · skip
      exfalso
      have z0_ := tz_eq_r rfl (show (7 : Int32).toInt = 7 by decide)
      have z1_ := tz_eq_r c4511_ (show (2 : Int32).toInt = 2 by decide)
      omega
    · skip
      exfalso
      have z0_ := tz_eq_r rfl (show (7 : Int32).toInt = 7 by decide)
      have z1_ := tz_eq_r c4512_ (show (3 : Int32).toInt = 3 by decide)
      omega
    · skip
      exfalso
      have z0_ := tz_eq_r rfl (show (7 : Int32).toInt = 7 by decide)
      have z1_ := tz_eq_r c4513_ (show (4 : Int32).toInt = 4 by decide)
      omega
    · skip
      exfalso
      have z0_ := tz_eq_r rfl (show (7 : Int32).toInt = 7 by decide)
      have z1_ := tz_eq_r c4514_ (show (5 : Int32).toInt = 5 by decide)
      omega
    · skip
      exfalso
      have z0_ := tz_eq_r rfl (show (7 : Int32).toInt = 7 by decide)
      have z1_ := tz_eq_r c4515_ (show (6 : Int32).toInt = 6 by decide)
      omega
    · skip
      refine lv_icmp_eq (tgt := 983) hx hb dL_law_965 (by decide) (fun _ => ?_) (fun c9_ => absurd (by decide) c9_)
      refine lv_iinc (v := 6) (lv' := [(3, .int 6), (2, .ref (b 0)), (1, .ref (a 0)), (0, .ref sc)]) hx hb dL_law_983 hl (k := 0) rfl (by decide) (by decide) rfl (fun ls hl => ?_)
      refine lv_goto (tgt := 18) hx hb dL_law_986 (by decide) ?_
      refine lv_iload_n hx hb dL_law_18 rfl (lv_at hl 0 rfl) ?_
      refine lv_aload_n hx hb dL_law_19 rfl (lv_at hl 3 rfl) ?_
      refine va_slen hx hb hX hbl hbA hS dL_law_20 ?_
      refine tk_i 6 (by decide) ?_
      refine lv_bipush (v := 6) hx hb dL_law_21 (by decide) ?_
      refine lv_isub hx hb dL_law_23 ?_
      refine tk_i 0 (by decide) ?_
      refine lv_icmp_gt (tgt := 989) hx hb dL_law_24 (by decide) (fun _ => ?_) (fun c9_ => absurd (by decide) c9_)
      refine lv_iconst (v := 1) hx hb dL_law_989 (by decide) ?_
      refine va_forget (fun q hq => by have h := hS.2.2 q hq; rw [hAe] at h; exact h) ?_
      refine W.widen (k := 600000) (n := 7302249) (Nat.le_of_ble_eq_true rfl) (Nat.le_of_ble_eq_true rfl) ?_
      exact lw_ret hx hb hr hlocks dL_law_990
    · skip
      exfalso
      have z0_ := tz_eq_r rfl (show (7 : Int32).toInt = 7 by decide)
      have z1_ := tz_eq_r c4517_ (show (8 : Int32).toInt = 8 by decide)
      omega
    · skip
      exfalso
      have z0_ := tz_eq_r rfl (show (7 : Int32).toInt = 7 by decide)
      have z1_ := tz_eq_r c4518_ (show (9 : Int32).toInt = 9 by decide)
      omega
    · skip
      exfalso
      have z0_ := tz_eq_r rfl (show (7 : Int32).toInt = 7 by decide)
      have z1_ := tz_eq_r c4519_ (show (10 : Int32).toInt = 10 by decide)
      omega
    · skip
      exfalso
      have z0_ := tz_eq_r rfl (show (7 : Int32).toInt = 7 by decide)
      have z1_ := tz_eq_r c4520_ (show (11 : Int32).toInt = 11 by decide)
      omega
    · skip
      exfalso
      have z0_ := tz_eq_r rfl (show (7 : Int32).toInt = 7 by decide)
      have z1_ := tz_eq_r c4521_ (show (12 : Int32).toInt = 12 by decide)
      omega
    · skip
      exfalso
      have z0_ := tz_eq_r rfl (show (7 : Int32).toInt = 7 by decide)
      have z1_ := tz_eq_r c4522_ (show (13 : Int32).toInt = 13 by decide)
      omega
    · skip
      subst rfl
      subst rfl
      subst rfl
      subst rfl
      subst rfl
      subst rfl
      subst rfl
      exfalso
      have z0_ := tz_eq_r rfl (show (7 : Int32).toInt = 7 by decide)
      have z1_ := tz_neq_r c4530_ (show (7 : Int32).toInt = 7 by decide)
      omega
    · skip
      subst rfl
      subst rfl
      subst rfl
      subst rfl
      subst rfl
      subst rfl
      subst rfl
      exfalso
      have z0_ := tz_eq_r rfl (show (7 : Int32).toInt = 7 by decide)
      have z1_ := tz_neq_r c4545_ (show (7 : Int32).toInt = 7 by decide)
      omega
    · skip
      subst rfl
      subst rfl
      subst rfl
      subst rfl
      subst rfl
      subst rfl
      subst rfl
      exfalso
      have z0_ := tz_eq_r rfl (show (7 : Int32).toInt = 7 by decide)
      have z1_ := tz_neq_r c4561_ (show (7 : Int32).toInt = 7 by decide)
      omega
  · skip
    subst c4029_
    refine lv_aload_n hx hb dL_law_956 rfl (lv_at hl 1 rfl) ?_
    refine lv_aload_n hx hb dL_law_957 rfl (lv_at hl 3 rfl) ?_
    refine lv_iload_n hx hb dL_law_958 rfl (lv_at hl 0 rfl) ?_
    refine lv_iconst (v := 1) hx hb dL_law_959 (by decide) ?_
    refine lv_iadd hx hb dL_law_960 ?_
    refine tk_i 1 (by decide) ?_
    refine va_sld hx hb hX hbl hbA hS (show ¬ ((1 : Int32) < 0 ∨ 6 ≤ Int32.toNatClampNeg 1) by decide) dL_law_961 ?_
    refine tk_i x1 ex1 ?_
    have hPc : va_P (dC, dI) vwCl (mw b cy) _ := hP.sub [56, 57, 58, 59, 60, 61, 62, 63] rfl
    have hDc := hD.sub (ws' := mw b cy) [56, 57, 58, 59, 60, 61, 62, 63] (by decide) rfl
    have hFc := va_free (wc := mw b cy) hD hS hA [56, 57, 58, 59, 60, 61, 62, 63] rfl
    refine va_calli (va_runV (As := [.int x1]) (rest := [.int 0]) ⟨hx, hb, hml, hown, hts⟩ (c_X12_count l dC dI cy b _ x1) (cwV 1 hts g_L_law_X12_count_130 rfl rfl rfl (by decide +kernel) ⟨Nat.le_of_ble_eq_true rfl, Nat.le_of_ble_eq_true rfl⟩) (pv_ps hC hPc hDc (ci := 12) (q0 := 0) rfl rfl) rfl rfl hl.1 rfl (lv_room (Nat.le_of_ble_eq_true rfl)) dL_law_962 ⟨Nat.le_of_ble_eq_true rfl, Nat.le_of_ble_eq_true rfl⟩) hS (fun q _ h => hFc q h) hFc (fun r_ u t_ H1 locs ht hvm hw hB hz1 hk1 hS => ?_)
    obtain ⟨hP, hD⟩ := va_join (wr := []) (w1 := []) hP hD [56, 57, 58, 59, 60, 61, 62, 63] [] rfl rfl (by decide) (by decide) hk1 hFc va_P0 va_D0
    generalize H1 = H at hP hS ⊢
    have hP : va_P (dC, dI) vwCl ([]) H := hP
    have hD : va_D A ([]) := hD
    rcases hw with ⟨c4570_, rfl⟩ | ⟨c4571_, rfl⟩ | ⟨c4572_, rfl⟩ | ⟨c4573_, rfl⟩ | ⟨c4574_, rfl⟩ | ⟨c4575_, rfl⟩ | ⟨c4576_, rfl⟩ | ⟨c4577_, rfl⟩ | ⟨c4578_, rfl⟩ | ⟨c4579_, rfl⟩ | ⟨c4580_, rfl⟩ | ⟨c4581_, rfl⟩ | ⟨c4582_, rfl⟩ | ⟨c4583_, rfl⟩ | ⟨c4584_, c4585_, c4586_, c4587_, c4588_, c4589_, c4590_, c4591_, c4592_, c4593_, c4594_, c4595_, c4596_, c4597_, c4598_, rfl⟩ | ⟨c4599_, c4600_, c4601_, c4602_, c4603_, c4604_, c4605_, c4606_, c4607_, c4608_, c4609_, c4610_, c4611_, c4612_, c4613_, c4614_, rfl⟩ | ⟨c4615_, c4616_, c4617_, c4618_, c4619_, c4620_, c4621_, c4622_, c4623_, c4624_, c4625_, c4626_, c4627_, c4628_, c4629_, c4630_, rfl⟩
    · skip
      exfalso
      have z0_ := tz_eq_r rfl (show (8 : Int32).toInt = 8 by decide)
      have z1_ := tz_eq_r c4570_ (show (0 : Int32).toInt = 0 by decide)
      omega
    · skip
      exfalso
      have z0_ := tz_eq_r rfl (show (8 : Int32).toInt = 8 by decide)
      have z1_ := tz_eq_r c4571_ (show (1 : Int32).toInt = 1 by decide)
      omega
    · skip
      exfalso
      have z0_ := tz_eq_r rfl (show (8 : Int32).toInt = 8 by decide)
      have z1_ := tz_eq_r c4572_ (show (2 : Int32).toInt = 2 by decide)
      omega
    · skip
      exfalso
      have z0_ := tz_eq_r rfl (show (8 : Int32).toInt = 8 by decide)
      have z1_ := tz_eq_r c4573_ (show (3 : Int32).toInt = 3 by decide)
      omega
    · skip
      exfalso
      have z0_ := tz_eq_r rfl (show (8 : Int32).toInt = 8 by decide)
      have z1_ := tz_eq_r c4574_ (show (4 : Int32).toInt = 4 by decide)
      omega
    · skip
      exfalso
      have z0_ := tz_eq_r rfl (show (8 : Int32).toInt = 8 by decide)
      have z1_ := tz_eq_r c4575_ (show (5 : Int32).toInt = 5 by decide)
      omega
    · skip
      exfalso
      have z0_ := tz_eq_r rfl (show (8 : Int32).toInt = 8 by decide)
      have z1_ := tz_eq_r c4576_ (show (6 : Int32).toInt = 6 by decide)
      omega
    · skip
      exfalso
      have z0_ := tz_eq_r rfl (show (8 : Int32).toInt = 8 by decide)
      have z1_ := tz_eq_r c4577_ (show (7 : Int32).toInt = 7 by decide)
      omega
    · skip
      refine lv_icmp_eq (tgt := 983) hx hb dL_law_965 (by decide) (fun _ => ?_) (fun c9_ => absurd (by decide) c9_)
      refine lv_iinc (v := 6) (lv' := [(3, .int 6), (2, .ref (b 0)), (1, .ref (a 0)), (0, .ref sc)]) hx hb dL_law_983 hl (k := 0) rfl (by decide) (by decide) rfl (fun ls hl => ?_)
      refine lv_goto (tgt := 18) hx hb dL_law_986 (by decide) ?_
      refine lv_iload_n hx hb dL_law_18 rfl (lv_at hl 0 rfl) ?_
      refine lv_aload_n hx hb dL_law_19 rfl (lv_at hl 3 rfl) ?_
      refine va_slen hx hb hX hbl hbA hS dL_law_20 ?_
      refine tk_i 6 (by decide) ?_
      refine lv_bipush (v := 6) hx hb dL_law_21 (by decide) ?_
      refine lv_isub hx hb dL_law_23 ?_
      refine tk_i 0 (by decide) ?_
      refine lv_icmp_gt (tgt := 989) hx hb dL_law_24 (by decide) (fun _ => ?_) (fun c9_ => absurd (by decide) c9_)
      refine lv_iconst (v := 1) hx hb dL_law_989 (by decide) ?_
      refine va_forget (fun q hq => by have h := hS.2.2 q hq; rw [hAe] at h; exact h) ?_
      refine W.widen (k := 600000) (n := 7302249) (Nat.le_of_ble_eq_true rfl) (Nat.le_of_ble_eq_true rfl) ?_
      exact lw_ret hx hb hr hlocks dL_law_990
    · skip
      exfalso
      have z0_ := tz_eq_r rfl (show (8 : Int32).toInt = 8 by decide)
      have z1_ := tz_eq_r c4579_ (show (9 : Int32).toInt = 9 by decide)
      omega
    · skip
      exfalso
      have z0_ := tz_eq_r rfl (show (8 : Int32).toInt = 8 by decide)
      have z1_ := tz_eq_r c4580_ (show (10 : Int32).toInt = 10 by decide)
      omega
    · skip
      exfalso
      have z0_ := tz_eq_r rfl (show (8 : Int32).toInt = 8 by decide)
      have z1_ := tz_eq_r c4581_ (show (11 : Int32).toInt = 11 by decide)
      omega
    · skip
      exfalso
      have z0_ := tz_eq_r rfl (show (8 : Int32).toInt = 8 by decide)
      have z1_ := tz_eq_r c4582_ (show (12 : Int32).toInt = 12 by decide)
      omega
    · skip
      exfalso
      have z0_ := tz_eq_r rfl (show (8 : Int32).toInt = 8 by decide)
      have z1_ := tz_eq_r c4583_ (show (13 : Int32).toInt = 13 by decide)
      omega
    · skip
      subst rfl
      subst rfl
      subst rfl
      subst rfl
      subst rfl
      subst rfl
      subst rfl
      subst rfl
      exfalso
      have z0_ := tz_eq_r rfl (show (8 : Int32).toInt = 8 by decide)
      have z1_ := tz_neq_r c4592_ (show (8 : Int32).toInt = 8 by decide)
      omega
    · skip
      subst rfl
      subst rfl
      subst rfl
      subst rfl
      subst rfl
      subst rfl
      subst rfl
      subst rfl
      exfalso
      have z0_ := tz_eq_r rfl (show (8 : Int32).toInt = 8 by decide)
      have z1_ := tz_neq_r c4607_ (show (8 : Int32).toInt = 8 by decide)
      omega
    · skip
      subst rfl
      subst rfl
      subst rfl
      subst rfl
      subst rfl
      subst rfl
      subst rfl
      subst rfl
      exfalso
      have z0_ := tz_eq_r rfl (show (8 : Int32).toInt = 8 by decide)
      have z1_ := tz_neq_r c4623_ (show (8 : Int32).toInt = 8 by decide)
      omega
  · skip
    subst c4030_
    refine lv_aload_n hx hb dL_law_956 rfl (lv_at hl 1 rfl) ?_
    refine lv_aload_n hx hb dL_law_957 rfl (lv_at hl 3 rfl) ?_
    refine lv_iload_n hx hb dL_law_958 rfl (lv_at hl 0 rfl) ?_
    refine lv_iconst (v := 1) hx hb dL_law_959 (by decide) ?_
    refine lv_iadd hx hb dL_law_960 ?_
    refine tk_i 1 (by decide) ?_
    refine va_sld hx hb hX hbl hbA hS (show ¬ ((1 : Int32) < 0 ∨ 6 ≤ Int32.toNatClampNeg 1) by decide) dL_law_961 ?_
    refine tk_i x1 ex1 ?_
    have hPc : va_P (dC, dI) vwCl (mw b cy) _ := hP.sub [56, 57, 58, 59, 60, 61, 62, 63] rfl
    have hDc := hD.sub (ws' := mw b cy) [56, 57, 58, 59, 60, 61, 62, 63] (by decide) rfl
    have hFc := va_free (wc := mw b cy) hD hS hA [56, 57, 58, 59, 60, 61, 62, 63] rfl
    refine va_calli (va_runV (As := [.int x1]) (rest := [.int 0]) ⟨hx, hb, hml, hown, hts⟩ (c_X12_count l dC dI cy b _ x1) (cwV 1 hts g_L_law_X12_count_130 rfl rfl rfl (by decide +kernel) ⟨Nat.le_of_ble_eq_true rfl, Nat.le_of_ble_eq_true rfl⟩) (pv_ps hC hPc hDc (ci := 12) (q0 := 0) rfl rfl) rfl rfl hl.1 rfl (lv_room (Nat.le_of_ble_eq_true rfl)) dL_law_962 ⟨Nat.le_of_ble_eq_true rfl, Nat.le_of_ble_eq_true rfl⟩) hS (fun q _ h => hFc q h) hFc (fun r_ u t_ H1 locs ht hvm hw hB hz1 hk1 hS => ?_)
    obtain ⟨hP, hD⟩ := va_join (wr := []) (w1 := []) hP hD [56, 57, 58, 59, 60, 61, 62, 63] [] rfl rfl (by decide) (by decide) hk1 hFc va_P0 va_D0
    generalize H1 = H at hP hS ⊢
    have hP : va_P (dC, dI) vwCl ([]) H := hP
    have hD : va_D A ([]) := hD
    rcases hw with ⟨c4631_, rfl⟩ | ⟨c4632_, rfl⟩ | ⟨c4633_, rfl⟩ | ⟨c4634_, rfl⟩ | ⟨c4635_, rfl⟩ | ⟨c4636_, rfl⟩ | ⟨c4637_, rfl⟩ | ⟨c4638_, rfl⟩ | ⟨c4639_, rfl⟩ | ⟨c4640_, rfl⟩ | ⟨c4641_, rfl⟩ | ⟨c4642_, rfl⟩ | ⟨c4643_, rfl⟩ | ⟨c4644_, rfl⟩ | ⟨c4645_, c4646_, c4647_, c4648_, c4649_, c4650_, c4651_, c4652_, c4653_, c4654_, c4655_, c4656_, c4657_, c4658_, c4659_, rfl⟩ | ⟨c4660_, c4661_, c4662_, c4663_, c4664_, c4665_, c4666_, c4667_, c4668_, c4669_, c4670_, c4671_, c4672_, c4673_, c4674_, c4675_, rfl⟩ | ⟨c4676_, c4677_, c4678_, c4679_, c4680_, c4681_, c4682_, c4683_, c4684_, c4685_, c4686_, c4687_, c4688_, c4689_, c4690_, c4691_, rfl⟩
    · skip
      exfalso
      have z0_ := tz_eq_r rfl (show (9 : Int32).toInt = 9 by decide)
      have z1_ := tz_eq_r c4631_ (show (0 : Int32).toInt = 0 by decide)
      omega
    · skip
      exfalso
      have z0_ := tz_eq_r rfl (show (9 : Int32).toInt = 9 by decide)
      have z1_ := tz_eq_r c4632_ (show (1 : Int32).toInt = 1 by decide)
      omega
    · skip
      exfalso
      have z0_ := tz_eq_r rfl (show (9 : Int32).toInt = 9 by decide)
      have z1_ := tz_eq_r c4633_ (show (2 : Int32).toInt = 2 by decide)
      omega
    · skip
      exfalso
      have z0_ := tz_eq_r rfl (show (9 : Int32).toInt = 9 by decide)
      have z1_ := tz_eq_r c4634_ (show (3 : Int32).toInt = 3 by decide)
      omega
    · skip
      exfalso
      have z0_ := tz_eq_r rfl (show (9 : Int32).toInt = 9 by decide)
      have z1_ := tz_eq_r c4635_ (show (4 : Int32).toInt = 4 by decide)
      omega
    · skip
      exfalso
      have z0_ := tz_eq_r rfl (show (9 : Int32).toInt = 9 by decide)
      have z1_ := tz_eq_r c4636_ (show (5 : Int32).toInt = 5 by decide)
      omega
    · skip
      exfalso
      have z0_ := tz_eq_r rfl (show (9 : Int32).toInt = 9 by decide)
      have z1_ := tz_eq_r c4637_ (show (6 : Int32).toInt = 6 by decide)
      omega
    · skip
      exfalso
      have z0_ := tz_eq_r rfl (show (9 : Int32).toInt = 9 by decide)
      have z1_ := tz_eq_r c4638_ (show (7 : Int32).toInt = 7 by decide)
      omega
    · skip
      exfalso
      have z0_ := tz_eq_r rfl (show (9 : Int32).toInt = 9 by decide)
      have z1_ := tz_eq_r c4639_ (show (8 : Int32).toInt = 8 by decide)
      omega
    · skip
      refine lv_icmp_eq (tgt := 983) hx hb dL_law_965 (by decide) (fun _ => ?_) (fun c9_ => absurd (by decide) c9_)
      refine lv_iinc (v := 6) (lv' := [(3, .int 6), (2, .ref (b 0)), (1, .ref (a 0)), (0, .ref sc)]) hx hb dL_law_983 hl (k := 0) rfl (by decide) (by decide) rfl (fun ls hl => ?_)
      refine lv_goto (tgt := 18) hx hb dL_law_986 (by decide) ?_
      refine lv_iload_n hx hb dL_law_18 rfl (lv_at hl 0 rfl) ?_
      refine lv_aload_n hx hb dL_law_19 rfl (lv_at hl 3 rfl) ?_
      refine va_slen hx hb hX hbl hbA hS dL_law_20 ?_
      refine tk_i 6 (by decide) ?_
      refine lv_bipush (v := 6) hx hb dL_law_21 (by decide) ?_
      refine lv_isub hx hb dL_law_23 ?_
      refine tk_i 0 (by decide) ?_
      refine lv_icmp_gt (tgt := 989) hx hb dL_law_24 (by decide) (fun _ => ?_) (fun c9_ => absurd (by decide) c9_)
      refine lv_iconst (v := 1) hx hb dL_law_989 (by decide) ?_
      refine va_forget (fun q hq => by have h := hS.2.2 q hq; rw [hAe] at h; exact h) ?_
      refine W.widen (k := 600000) (n := 7302249) (Nat.le_of_ble_eq_true rfl) (Nat.le_of_ble_eq_true rfl) ?_
      exact lw_ret hx hb hr hlocks dL_law_990
    · skip
      exfalso
      have z0_ := tz_eq_r rfl (show (9 : Int32).toInt = 9 by decide)
      have z1_ := tz_eq_r c4641_ (show (10 : Int32).toInt = 10 by decide)
      omega
    · skip
      exfalso
      have z0_ := tz_eq_r rfl (show (9 : Int32).toInt = 9 by decide)
      have z1_ := tz_eq_r c4642_ (show (11 : Int32).toInt = 11 by decide)
      omega
    · skip
      exfalso
      have z0_ := tz_eq_r rfl (show (9 : Int32).toInt = 9 by decide)
      have z1_ := tz_eq_r c4643_ (show (12 : Int32).toInt = 12 by decide)
      omega
    · skip
      exfalso
      have z0_ := tz_eq_r rfl (show (9 : Int32).toInt = 9 by decide)
      have z1_ := tz_eq_r c4644_ (show (13 : Int32).toInt = 13 by decide)
      omega
    · skip
      subst rfl
      subst rfl
      subst rfl
      subst rfl
      subst rfl
      subst rfl
      subst rfl
      subst rfl
      subst rfl
      exfalso
      have z0_ := tz_eq_r rfl (show (9 : Int32).toInt = 9 by decide)
      have z1_ := tz_neq_r c4654_ (show (9 : Int32).toInt = 9 by decide)
      omega
    · skip
      subst rfl
      subst rfl
      subst rfl
      subst rfl
      subst rfl
      subst rfl
      subst rfl
      subst rfl
      subst rfl
      exfalso
      have z0_ := tz_eq_r rfl (show (9 : Int32).toInt = 9 by decide)
      have z1_ := tz_neq_r c4669_ (show (9 : Int32).toInt = 9 by decide)
      omega
    · skip
      subst rfl
      subst rfl
      subst rfl
      subst rfl
      subst rfl
      subst rfl
      subst rfl
      subst rfl
      subst rfl
      exfalso
      have z0_ := tz_eq_r rfl (show (9 : Int32).toInt = 9 by decide)
      have z1_ := tz_neq_r c4685_ (show (9 : Int32).toInt = 9 by decide)
      omega
  · skip
    subst c4031_
    refine lv_aload_n hx hb dL_law_956 rfl (lv_at hl 1 rfl) ?_
    refine lv_aload_n hx hb dL_law_957 rfl (lv_at hl 3 rfl) ?_
    refine lv_iload_n hx hb dL_law_958 rfl (lv_at hl 0 rfl) ?_
    refine lv_iconst (v := 1) hx hb dL_law_959 (by decide) ?_
    refine lv_iadd hx hb dL_law_960 ?_
    refine tk_i 1 (by decide) ?_
    refine va_sld hx hb hX hbl hbA hS (show ¬ ((1 : Int32) < 0 ∨ 6 ≤ Int32.toNatClampNeg 1) by decide) dL_law_961 ?_
    refine tk_i x1 ex1 ?_
    have hPc : va_P (dC, dI) vwCl (mw b cy) _ := hP.sub [56, 57, 58, 59, 60, 61, 62, 63] rfl
    have hDc := hD.sub (ws' := mw b cy) [56, 57, 58, 59, 60, 61, 62, 63] (by decide) rfl
    have hFc := va_free (wc := mw b cy) hD hS hA [56, 57, 58, 59, 60, 61, 62, 63] rfl
    refine va_calli (va_runV (As := [.int x1]) (rest := [.int 0]) ⟨hx, hb, hml, hown, hts⟩ (c_X12_count l dC dI cy b _ x1) (cwV 1 hts g_L_law_X12_count_130 rfl rfl rfl (by decide +kernel) ⟨Nat.le_of_ble_eq_true rfl, Nat.le_of_ble_eq_true rfl⟩) (pv_ps hC hPc hDc (ci := 12) (q0 := 0) rfl rfl) rfl rfl hl.1 rfl (lv_room (Nat.le_of_ble_eq_true rfl)) dL_law_962 ⟨Nat.le_of_ble_eq_true rfl, Nat.le_of_ble_eq_true rfl⟩) hS (fun q _ h => hFc q h) hFc (fun r_ u t_ H1 locs ht hvm hw hB hz1 hk1 hS => ?_)
    obtain ⟨hP, hD⟩ := va_join (wr := []) (w1 := []) hP hD [56, 57, 58, 59, 60, 61, 62, 63] [] rfl rfl (by decide) (by decide) hk1 hFc va_P0 va_D0
    generalize H1 = H at hP hS ⊢
    have hP : va_P (dC, dI) vwCl ([]) H := hP
    have hD : va_D A ([]) := hD
    rcases hw with ⟨c4692_, rfl⟩ | ⟨c4693_, rfl⟩ | ⟨c4694_, rfl⟩ | ⟨c4695_, rfl⟩ | ⟨c4696_, rfl⟩ | ⟨c4697_, rfl⟩ | ⟨c4698_, rfl⟩ | ⟨c4699_, rfl⟩ | ⟨c4700_, rfl⟩ | ⟨c4701_, rfl⟩ | ⟨c4702_, rfl⟩ | ⟨c4703_, rfl⟩ | ⟨c4704_, rfl⟩ | ⟨c4705_, rfl⟩ | ⟨c4706_, c4707_, c4708_, c4709_, c4710_, c4711_, c4712_, c4713_, c4714_, c4715_, c4716_, c4717_, c4718_, c4719_, c4720_, rfl⟩ | ⟨c4721_, c4722_, c4723_, c4724_, c4725_, c4726_, c4727_, c4728_, c4729_, c4730_, c4731_, c4732_, c4733_, c4734_, c4735_, c4736_, rfl⟩ | ⟨c4737_, c4738_, c4739_, c4740_, c4741_, c4742_, c4743_, c4744_, c4745_, c4746_, c4747_, c4748_, c4749_, c4750_, c4751_, c4752_, rfl⟩
    · skip
      exfalso
      have z0_ := tz_eq_r rfl (show (10 : Int32).toInt = 10 by decide)
      have z1_ := tz_eq_r c4692_ (show (0 : Int32).toInt = 0 by decide)
      omega
    · skip
      exfalso
      have z0_ := tz_eq_r rfl (show (10 : Int32).toInt = 10 by decide)
      have z1_ := tz_eq_r c4693_ (show (1 : Int32).toInt = 1 by decide)
      omega
    · skip
      exfalso
      have z0_ := tz_eq_r rfl (show (10 : Int32).toInt = 10 by decide)
      have z1_ := tz_eq_r c4694_ (show (2 : Int32).toInt = 2 by decide)
      omega
    · skip
      exfalso
      have z0_ := tz_eq_r rfl (show (10 : Int32).toInt = 10 by decide)
      have z1_ := tz_eq_r c4695_ (show (3 : Int32).toInt = 3 by decide)
      omega
    · skip
      exfalso
      have z0_ := tz_eq_r rfl (show (10 : Int32).toInt = 10 by decide)
      have z1_ := tz_eq_r c4696_ (show (4 : Int32).toInt = 4 by decide)
      omega
    · skip
      exfalso
      have z0_ := tz_eq_r rfl (show (10 : Int32).toInt = 10 by decide)
      have z1_ := tz_eq_r c4697_ (show (5 : Int32).toInt = 5 by decide)
      omega
    · skip
      exfalso
      have z0_ := tz_eq_r rfl (show (10 : Int32).toInt = 10 by decide)
      have z1_ := tz_eq_r c4698_ (show (6 : Int32).toInt = 6 by decide)
      omega
    · skip
      exfalso
      have z0_ := tz_eq_r rfl (show (10 : Int32).toInt = 10 by decide)
      have z1_ := tz_eq_r c4699_ (show (7 : Int32).toInt = 7 by decide)
      omega
    · skip
      exfalso
      have z0_ := tz_eq_r rfl (show (10 : Int32).toInt = 10 by decide)
      have z1_ := tz_eq_r c4700_ (show (8 : Int32).toInt = 8 by decide)
      omega
    · skip
      exfalso
      have z0_ := tz_eq_r rfl (show (10 : Int32).toInt = 10 by decide)
      have z1_ := tz_eq_r c4701_ (show (9 : Int32).toInt = 9 by decide)
      omega
    · skip
      refine lv_icmp_eq (tgt := 983) hx hb dL_law_965 (by decide) (fun _ => ?_) (fun c9_ => absurd (by decide) c9_)
      refine lv_iinc (v := 6) (lv' := [(3, .int 6), (2, .ref (b 0)), (1, .ref (a 0)), (0, .ref sc)]) hx hb dL_law_983 hl (k := 0) rfl (by decide) (by decide) rfl (fun ls hl => ?_)
      refine lv_goto (tgt := 18) hx hb dL_law_986 (by decide) ?_
      refine lv_iload_n hx hb dL_law_18 rfl (lv_at hl 0 rfl) ?_
      refine lv_aload_n hx hb dL_law_19 rfl (lv_at hl 3 rfl) ?_
      refine va_slen hx hb hX hbl hbA hS dL_law_20 ?_
      refine tk_i 6 (by decide) ?_
      refine lv_bipush (v := 6) hx hb dL_law_21 (by decide) ?_
      refine lv_isub hx hb dL_law_23 ?_
      refine tk_i 0 (by decide) ?_
      refine lv_icmp_gt (tgt := 989) hx hb dL_law_24 (by decide) (fun _ => ?_) (fun c9_ => absurd (by decide) c9_)
      refine lv_iconst (v := 1) hx hb dL_law_989 (by decide) ?_
      refine va_forget (fun q hq => by have h := hS.2.2 q hq; rw [hAe] at h; exact h) ?_
      refine W.widen (k := 600000) (n := 7302249) (Nat.le_of_ble_eq_true rfl) (Nat.le_of_ble_eq_true rfl) ?_
      exact lw_ret hx hb hr hlocks dL_law_990
    · skip
      exfalso
      have z0_ := tz_eq_r rfl (show (10 : Int32).toInt = 10 by decide)
      have z1_ := tz_eq_r c4703_ (show (11 : Int32).toInt = 11 by decide)
      omega
    · skip
      exfalso
      have z0_ := tz_eq_r rfl (show (10 : Int32).toInt = 10 by decide)
      have z1_ := tz_eq_r c4704_ (show (12 : Int32).toInt = 12 by decide)
      omega
    · skip
      exfalso
      have z0_ := tz_eq_r rfl (show (10 : Int32).toInt = 10 by decide)
      have z1_ := tz_eq_r c4705_ (show (13 : Int32).toInt = 13 by decide)
      omega
    · skip
      subst rfl
      subst rfl
      subst rfl
      subst rfl
      subst rfl
      subst rfl
      subst rfl
      subst rfl
      subst rfl
      subst rfl
      exfalso
      have z0_ := tz_eq_r rfl (show (10 : Int32).toInt = 10 by decide)
      have z1_ := tz_neq_r c4716_ (show (10 : Int32).toInt = 10 by decide)
      omega
    · skip
      subst rfl
      subst rfl
      subst rfl
      subst rfl
      subst rfl
      subst rfl
      subst rfl
      subst rfl
      subst rfl
      subst rfl
      exfalso
      have z0_ := tz_eq_r rfl (show (10 : Int32).toInt = 10 by decide)
      have z1_ := tz_neq_r c4731_ (show (10 : Int32).toInt = 10 by decide)
      omega
    · skip
      subst rfl
      subst rfl
      subst rfl
      subst rfl
      subst rfl
      subst rfl
      subst rfl
      subst rfl
      subst rfl
      subst rfl
      exfalso
      have z0_ := tz_eq_r rfl (show (10 : Int32).toInt = 10 by decide)
      have z1_ := tz_neq_r c4747_ (show (10 : Int32).toInt = 10 by decide)
      omega
  · skip
    subst c4032_
    refine lv_aload_n hx hb dL_law_956 rfl (lv_at hl 1 rfl) ?_
    refine lv_aload_n hx hb dL_law_957 rfl (lv_at hl 3 rfl) ?_
    refine lv_iload_n hx hb dL_law_958 rfl (lv_at hl 0 rfl) ?_
    refine lv_iconst (v := 1) hx hb dL_law_959 (by decide) ?_
    refine lv_iadd hx hb dL_law_960 ?_
    refine tk_i 1 (by decide) ?_
    refine va_sld hx hb hX hbl hbA hS (show ¬ ((1 : Int32) < 0 ∨ 6 ≤ Int32.toNatClampNeg 1) by decide) dL_law_961 ?_
    refine tk_i x1 ex1 ?_
    have hPc : va_P (dC, dI) vwCl (mw b cy) _ := hP.sub [56, 57, 58, 59, 60, 61, 62, 63] rfl
    have hDc := hD.sub (ws' := mw b cy) [56, 57, 58, 59, 60, 61, 62, 63] (by decide) rfl
    have hFc := va_free (wc := mw b cy) hD hS hA [56, 57, 58, 59, 60, 61, 62, 63] rfl
    refine va_calli (va_runV (As := [.int x1]) (rest := [.int 0]) ⟨hx, hb, hml, hown, hts⟩ (c_X12_count l dC dI cy b _ x1) (cwV 1 hts g_L_law_X12_count_130 rfl rfl rfl (by decide +kernel) ⟨Nat.le_of_ble_eq_true rfl, Nat.le_of_ble_eq_true rfl⟩) (pv_ps hC hPc hDc (ci := 12) (q0 := 0) rfl rfl) rfl rfl hl.1 rfl (lv_room (Nat.le_of_ble_eq_true rfl)) dL_law_962 ⟨Nat.le_of_ble_eq_true rfl, Nat.le_of_ble_eq_true rfl⟩) hS (fun q _ h => hFc q h) hFc (fun r_ u t_ H1 locs ht hvm hw hB hz1 hk1 hS => ?_)
    obtain ⟨hP, hD⟩ := va_join (wr := []) (w1 := []) hP hD [56, 57, 58, 59, 60, 61, 62, 63] [] rfl rfl (by decide) (by decide) hk1 hFc va_P0 va_D0
    generalize H1 = H at hP hS ⊢
    have hP : va_P (dC, dI) vwCl ([]) H := hP
    have hD : va_D A ([]) := hD
    rcases hw with ⟨c4753_, rfl⟩ | ⟨c4754_, rfl⟩ | ⟨c4755_, rfl⟩ | ⟨c4756_, rfl⟩ | ⟨c4757_, rfl⟩ | ⟨c4758_, rfl⟩ | ⟨c4759_, rfl⟩ | ⟨c4760_, rfl⟩ | ⟨c4761_, rfl⟩ | ⟨c4762_, rfl⟩ | ⟨c4763_, rfl⟩ | ⟨c4764_, rfl⟩ | ⟨c4765_, rfl⟩ | ⟨c4766_, rfl⟩ | ⟨c4767_, c4768_, c4769_, c4770_, c4771_, c4772_, c4773_, c4774_, c4775_, c4776_, c4777_, c4778_, c4779_, c4780_, c4781_, rfl⟩ | ⟨c4782_, c4783_, c4784_, c4785_, c4786_, c4787_, c4788_, c4789_, c4790_, c4791_, c4792_, c4793_, c4794_, c4795_, c4796_, c4797_, rfl⟩ | ⟨c4798_, c4799_, c4800_, c4801_, c4802_, c4803_, c4804_, c4805_, c4806_, c4807_, c4808_, c4809_, c4810_, c4811_, c4812_, c4813_, rfl⟩
    · skip
      exfalso
      have z0_ := tz_eq_r rfl (show (11 : Int32).toInt = 11 by decide)
      have z1_ := tz_eq_r c4753_ (show (0 : Int32).toInt = 0 by decide)
      omega
    · skip
      exfalso
      have z0_ := tz_eq_r rfl (show (11 : Int32).toInt = 11 by decide)
      have z1_ := tz_eq_r c4754_ (show (1 : Int32).toInt = 1 by decide)
      omega
    · skip
      exfalso
      have z0_ := tz_eq_r rfl (show (11 : Int32).toInt = 11 by decide)
      have z1_ := tz_eq_r c4755_ (show (2 : Int32).toInt = 2 by decide)
      omega
    · skip
      exfalso
      have z0_ := tz_eq_r rfl (show (11 : Int32).toInt = 11 by decide)
      have z1_ := tz_eq_r c4756_ (show (3 : Int32).toInt = 3 by decide)
      omega
    · skip
      exfalso
      have z0_ := tz_eq_r rfl (show (11 : Int32).toInt = 11 by decide)
      have z1_ := tz_eq_r c4757_ (show (4 : Int32).toInt = 4 by decide)
      omega
    · skip
      exfalso
      have z0_ := tz_eq_r rfl (show (11 : Int32).toInt = 11 by decide)
      have z1_ := tz_eq_r c4758_ (show (5 : Int32).toInt = 5 by decide)
      omega
    · skip
      exfalso
      have z0_ := tz_eq_r rfl (show (11 : Int32).toInt = 11 by decide)
      have z1_ := tz_eq_r c4759_ (show (6 : Int32).toInt = 6 by decide)
      omega
    · skip
      exfalso
      have z0_ := tz_eq_r rfl (show (11 : Int32).toInt = 11 by decide)
      have z1_ := tz_eq_r c4760_ (show (7 : Int32).toInt = 7 by decide)
      omega
    · skip
      exfalso
      have z0_ := tz_eq_r rfl (show (11 : Int32).toInt = 11 by decide)
      have z1_ := tz_eq_r c4761_ (show (8 : Int32).toInt = 8 by decide)
      omega
    · skip
      exfalso
      have z0_ := tz_eq_r rfl (show (11 : Int32).toInt = 11 by decide)
      have z1_ := tz_eq_r c4762_ (show (9 : Int32).toInt = 9 by decide)
      omega
    · skip
      exfalso
      have z0_ := tz_eq_r rfl (show (11 : Int32).toInt = 11 by decide)
      have z1_ := tz_eq_r c4763_ (show (10 : Int32).toInt = 10 by decide)
      omega
    · skip
      refine lv_icmp_eq (tgt := 983) hx hb dL_law_965 (by decide) (fun _ => ?_) (fun c9_ => absurd (by decide) c9_)
      refine lv_iinc (v := 6) (lv' := [(3, .int 6), (2, .ref (b 0)), (1, .ref (a 0)), (0, .ref sc)]) hx hb dL_law_983 hl (k := 0) rfl (by decide) (by decide) rfl (fun ls hl => ?_)
      refine lv_goto (tgt := 18) hx hb dL_law_986 (by decide) ?_
      refine lv_iload_n hx hb dL_law_18 rfl (lv_at hl 0 rfl) ?_
      refine lv_aload_n hx hb dL_law_19 rfl (lv_at hl 3 rfl) ?_
      refine va_slen hx hb hX hbl hbA hS dL_law_20 ?_
      refine tk_i 6 (by decide) ?_
      refine lv_bipush (v := 6) hx hb dL_law_21 (by decide) ?_
      refine lv_isub hx hb dL_law_23 ?_
      refine tk_i 0 (by decide) ?_
      refine lv_icmp_gt (tgt := 989) hx hb dL_law_24 (by decide) (fun _ => ?_) (fun c9_ => absurd (by decide) c9_)
      refine lv_iconst (v := 1) hx hb dL_law_989 (by decide) ?_
      refine va_forget (fun q hq => by have h := hS.2.2 q hq; rw [hAe] at h; exact h) ?_
      refine W.widen (k := 600000) (n := 7302249) (Nat.le_of_ble_eq_true rfl) (Nat.le_of_ble_eq_true rfl) ?_
      exact lw_ret hx hb hr hlocks dL_law_990
    · skip
      exfalso
      have z0_ := tz_eq_r rfl (show (11 : Int32).toInt = 11 by decide)
      have z1_ := tz_eq_r c4765_ (show (12 : Int32).toInt = 12 by decide)
      omega
    · skip
      exfalso
      have z0_ := tz_eq_r rfl (show (11 : Int32).toInt = 11 by decide)
      have z1_ := tz_eq_r c4766_ (show (13 : Int32).toInt = 13 by decide)
      omega
    · skip
      subst rfl
      subst rfl
      subst rfl
      subst rfl
      subst rfl
      subst rfl
      subst rfl
      subst rfl
      subst rfl
      subst rfl
      subst rfl
      exfalso
      have z0_ := tz_eq_r rfl (show (11 : Int32).toInt = 11 by decide)
      have z1_ := tz_neq_r c4778_ (show (11 : Int32).toInt = 11 by decide)
      omega
    · skip
      subst rfl
      subst rfl
      subst rfl
      subst rfl
      subst rfl
      subst rfl
      subst rfl
      subst rfl
      subst rfl
      subst rfl
      subst rfl
      exfalso
      have z0_ := tz_eq_r rfl (show (11 : Int32).toInt = 11 by decide)
      have z1_ := tz_neq_r c4793_ (show (11 : Int32).toInt = 11 by decide)
      omega
    · skip
      subst rfl
      subst rfl
      subst rfl
      subst rfl
      subst rfl
      subst rfl
      subst rfl
      subst rfl
      subst rfl
      subst rfl
      subst rfl
      exfalso
      have z0_ := tz_eq_r rfl (show (11 : Int32).toInt = 11 by decide)
      have z1_ := tz_neq_r c4809_ (show (11 : Int32).toInt = 11 by decide)
      omega
  · skip
    subst c4033_
    refine lv_aload_n hx hb dL_law_956 rfl (lv_at hl 1 rfl) ?_
    refine lv_aload_n hx hb dL_law_957 rfl (lv_at hl 3 rfl) ?_
    refine lv_iload_n hx hb dL_law_958 rfl (lv_at hl 0 rfl) ?_
    refine lv_iconst (v := 1) hx hb dL_law_959 (by decide) ?_
    refine lv_iadd hx hb dL_law_960 ?_
    refine tk_i 1 (by decide) ?_
    refine va_sld hx hb hX hbl hbA hS (show ¬ ((1 : Int32) < 0 ∨ 6 ≤ Int32.toNatClampNeg 1) by decide) dL_law_961 ?_
    refine tk_i x1 ex1 ?_
    have hPc : va_P (dC, dI) vwCl (mw b cy) _ := hP.sub [56, 57, 58, 59, 60, 61, 62, 63] rfl
    have hDc := hD.sub (ws' := mw b cy) [56, 57, 58, 59, 60, 61, 62, 63] (by decide) rfl
    have hFc := va_free (wc := mw b cy) hD hS hA [56, 57, 58, 59, 60, 61, 62, 63] rfl
    refine va_calli (va_runV (As := [.int x1]) (rest := [.int 0]) ⟨hx, hb, hml, hown, hts⟩ (c_X12_count l dC dI cy b _ x1) (cwV 1 hts g_L_law_X12_count_130 rfl rfl rfl (by decide +kernel) ⟨Nat.le_of_ble_eq_true rfl, Nat.le_of_ble_eq_true rfl⟩) (pv_ps hC hPc hDc (ci := 12) (q0 := 0) rfl rfl) rfl rfl hl.1 rfl (lv_room (Nat.le_of_ble_eq_true rfl)) dL_law_962 ⟨Nat.le_of_ble_eq_true rfl, Nat.le_of_ble_eq_true rfl⟩) hS (fun q _ h => hFc q h) hFc (fun r_ u t_ H1 locs ht hvm hw hB hz1 hk1 hS => ?_)
    obtain ⟨hP, hD⟩ := va_join (wr := []) (w1 := []) hP hD [56, 57, 58, 59, 60, 61, 62, 63] [] rfl rfl (by decide) (by decide) hk1 hFc va_P0 va_D0
    generalize H1 = H at hP hS ⊢
    have hP : va_P (dC, dI) vwCl ([]) H := hP
    have hD : va_D A ([]) := hD
    rcases hw with ⟨c4814_, rfl⟩ | ⟨c4815_, rfl⟩ | ⟨c4816_, rfl⟩ | ⟨c4817_, rfl⟩ | ⟨c4818_, rfl⟩ | ⟨c4819_, rfl⟩ | ⟨c4820_, rfl⟩ | ⟨c4821_, rfl⟩ | ⟨c4822_, rfl⟩ | ⟨c4823_, rfl⟩ | ⟨c4824_, rfl⟩ | ⟨c4825_, rfl⟩ | ⟨c4826_, rfl⟩ | ⟨c4827_, rfl⟩ | ⟨c4828_, c4829_, c4830_, c4831_, c4832_, c4833_, c4834_, c4835_, c4836_, c4837_, c4838_, c4839_, c4840_, c4841_, c4842_, rfl⟩ | ⟨c4843_, c4844_, c4845_, c4846_, c4847_, c4848_, c4849_, c4850_, c4851_, c4852_, c4853_, c4854_, c4855_, c4856_, c4857_, c4858_, rfl⟩ | ⟨c4859_, c4860_, c4861_, c4862_, c4863_, c4864_, c4865_, c4866_, c4867_, c4868_, c4869_, c4870_, c4871_, c4872_, c4873_, c4874_, rfl⟩
    · skip
      exfalso
      have z0_ := tz_eq_r rfl (show (12 : Int32).toInt = 12 by decide)
      have z1_ := tz_eq_r c4814_ (show (0 : Int32).toInt = 0 by decide)
      omega
    · skip
      exfalso
      have z0_ := tz_eq_r rfl (show (12 : Int32).toInt = 12 by decide)
      have z1_ := tz_eq_r c4815_ (show (1 : Int32).toInt = 1 by decide)
      omega
    · skip
      exfalso
      have z0_ := tz_eq_r rfl (show (12 : Int32).toInt = 12 by decide)
      have z1_ := tz_eq_r c4816_ (show (2 : Int32).toInt = 2 by decide)
      omega
    · skip
      exfalso
      have z0_ := tz_eq_r rfl (show (12 : Int32).toInt = 12 by decide)
      have z1_ := tz_eq_r c4817_ (show (3 : Int32).toInt = 3 by decide)
      omega
    · skip
      exfalso
      have z0_ := tz_eq_r rfl (show (12 : Int32).toInt = 12 by decide)
      have z1_ := tz_eq_r c4818_ (show (4 : Int32).toInt = 4 by decide)
      omega
    · skip
      exfalso
      have z0_ := tz_eq_r rfl (show (12 : Int32).toInt = 12 by decide)
      have z1_ := tz_eq_r c4819_ (show (5 : Int32).toInt = 5 by decide)
      omega
    · skip
      exfalso
      have z0_ := tz_eq_r rfl (show (12 : Int32).toInt = 12 by decide)
      have z1_ := tz_eq_r c4820_ (show (6 : Int32).toInt = 6 by decide)
      omega
    · skip
      exfalso
      have z0_ := tz_eq_r rfl (show (12 : Int32).toInt = 12 by decide)
      have z1_ := tz_eq_r c4821_ (show (7 : Int32).toInt = 7 by decide)
      omega
    · skip
      exfalso
      have z0_ := tz_eq_r rfl (show (12 : Int32).toInt = 12 by decide)
      have z1_ := tz_eq_r c4822_ (show (8 : Int32).toInt = 8 by decide)
      omega
    · skip
      exfalso
      have z0_ := tz_eq_r rfl (show (12 : Int32).toInt = 12 by decide)
      have z1_ := tz_eq_r c4823_ (show (9 : Int32).toInt = 9 by decide)
      omega
    · skip
      exfalso
      have z0_ := tz_eq_r rfl (show (12 : Int32).toInt = 12 by decide)
      have z1_ := tz_eq_r c4824_ (show (10 : Int32).toInt = 10 by decide)
      omega
    · skip
      exfalso
      have z0_ := tz_eq_r rfl (show (12 : Int32).toInt = 12 by decide)
      have z1_ := tz_eq_r c4825_ (show (11 : Int32).toInt = 11 by decide)
      omega
    · skip
      refine lv_icmp_eq (tgt := 983) hx hb dL_law_965 (by decide) (fun _ => ?_) (fun c9_ => absurd (by decide) c9_)
      refine lv_iinc (v := 6) (lv' := [(3, .int 6), (2, .ref (b 0)), (1, .ref (a 0)), (0, .ref sc)]) hx hb dL_law_983 hl (k := 0) rfl (by decide) (by decide) rfl (fun ls hl => ?_)
      refine lv_goto (tgt := 18) hx hb dL_law_986 (by decide) ?_
      refine lv_iload_n hx hb dL_law_18 rfl (lv_at hl 0 rfl) ?_
      refine lv_aload_n hx hb dL_law_19 rfl (lv_at hl 3 rfl) ?_
      refine va_slen hx hb hX hbl hbA hS dL_law_20 ?_
      refine tk_i 6 (by decide) ?_
      refine lv_bipush (v := 6) hx hb dL_law_21 (by decide) ?_
      refine lv_isub hx hb dL_law_23 ?_
      refine tk_i 0 (by decide) ?_
      refine lv_icmp_gt (tgt := 989) hx hb dL_law_24 (by decide) (fun _ => ?_) (fun c9_ => absurd (by decide) c9_)
      refine lv_iconst (v := 1) hx hb dL_law_989 (by decide) ?_
      refine va_forget (fun q hq => by have h := hS.2.2 q hq; rw [hAe] at h; exact h) ?_
      refine W.widen (k := 600000) (n := 7302249) (Nat.le_of_ble_eq_true rfl) (Nat.le_of_ble_eq_true rfl) ?_
      exact lw_ret hx hb hr hlocks dL_law_990
    · skip
      exfalso
      have z0_ := tz_eq_r rfl (show (12 : Int32).toInt = 12 by decide)
      have z1_ := tz_eq_r c4827_ (show (13 : Int32).toInt = 13 by decide)
      omega
    · skip
      subst rfl
      subst rfl
      subst rfl
      subst rfl
      subst rfl
      subst rfl
      subst rfl
      subst rfl
      subst rfl
      subst rfl
      subst rfl
      subst rfl
      exfalso
      have z0_ := tz_eq_r rfl (show (12 : Int32).toInt = 12 by decide)
      have z1_ := tz_neq_r c4840_ (show (12 : Int32).toInt = 12 by decide)
      omega
    · skip
      subst rfl
      subst rfl
      subst rfl
      subst rfl
      subst rfl
      subst rfl
      subst rfl
      subst rfl
      subst rfl
      subst rfl
      subst rfl
      subst rfl
      exfalso
      have z0_ := tz_eq_r rfl (show (12 : Int32).toInt = 12 by decide)
      have z1_ := tz_neq_r c4855_ (show (12 : Int32).toInt = 12 by decide)
      omega
    · skip
      subst rfl
      subst rfl
      subst rfl
      subst rfl
      subst rfl
      subst rfl
      subst rfl
      subst rfl
      subst rfl
      subst rfl
      subst rfl
      subst rfl
      exfalso
      have z0_ := tz_eq_r rfl (show (12 : Int32).toInt = 12 by decide)
      have z1_ := tz_neq_r c4871_ (show (12 : Int32).toInt = 12 by decide)
      omega
  · skip
    subst c4034_
    refine lv_aload_n hx hb dL_law_956 rfl (lv_at hl 1 rfl) ?_
    refine lv_aload_n hx hb dL_law_957 rfl (lv_at hl 3 rfl) ?_
    refine lv_iload_n hx hb dL_law_958 rfl (lv_at hl 0 rfl) ?_
    refine lv_iconst (v := 1) hx hb dL_law_959 (by decide) ?_
    refine lv_iadd hx hb dL_law_960 ?_
    refine tk_i 1 (by decide) ?_
    refine va_sld hx hb hX hbl hbA hS (show ¬ ((1 : Int32) < 0 ∨ 6 ≤ Int32.toNatClampNeg 1) by decide) dL_law_961 ?_
    refine tk_i x1 ex1 ?_
    have hPc : va_P (dC, dI) vwCl (mw b cy) _ := hP.sub [56, 57, 58, 59, 60, 61, 62, 63] rfl
    have hDc := hD.sub (ws' := mw b cy) [56, 57, 58, 59, 60, 61, 62, 63] (by decide) rfl
    have hFc := va_free (wc := mw b cy) hD hS hA [56, 57, 58, 59, 60, 61, 62, 63] rfl
    refine va_calli (va_runV (As := [.int x1]) (rest := [.int 0]) ⟨hx, hb, hml, hown, hts⟩ (c_X12_count l dC dI cy b _ x1) (cwV 1 hts g_L_law_X12_count_130 rfl rfl rfl (by decide +kernel) ⟨Nat.le_of_ble_eq_true rfl, Nat.le_of_ble_eq_true rfl⟩) (pv_ps hC hPc hDc (ci := 12) (q0 := 0) rfl rfl) rfl rfl hl.1 rfl (lv_room (Nat.le_of_ble_eq_true rfl)) dL_law_962 ⟨Nat.le_of_ble_eq_true rfl, Nat.le_of_ble_eq_true rfl⟩) hS (fun q _ h => hFc q h) hFc (fun r_ u t_ H1 locs ht hvm hw hB hz1 hk1 hS => ?_)
    obtain ⟨hP, hD⟩ := va_join (wr := []) (w1 := []) hP hD [56, 57, 58, 59, 60, 61, 62, 63] [] rfl rfl (by decide) (by decide) hk1 hFc va_P0 va_D0
    generalize H1 = H at hP hS ⊢
    have hP : va_P (dC, dI) vwCl ([]) H := hP
    have hD : va_D A ([]) := hD
    rcases hw with ⟨c4875_, rfl⟩ | ⟨c4876_, rfl⟩ | ⟨c4877_, rfl⟩ | ⟨c4878_, rfl⟩ | ⟨c4879_, rfl⟩ | ⟨c4880_, rfl⟩ | ⟨c4881_, rfl⟩ | ⟨c4882_, rfl⟩ | ⟨c4883_, rfl⟩ | ⟨c4884_, rfl⟩ | ⟨c4885_, rfl⟩ | ⟨c4886_, rfl⟩ | ⟨c4887_, rfl⟩ | ⟨c4888_, rfl⟩ | ⟨c4889_, c4890_, c4891_, c4892_, c4893_, c4894_, c4895_, c4896_, c4897_, c4898_, c4899_, c4900_, c4901_, c4902_, c4903_, rfl⟩ | ⟨c4904_, c4905_, c4906_, c4907_, c4908_, c4909_, c4910_, c4911_, c4912_, c4913_, c4914_, c4915_, c4916_, c4917_, c4918_, c4919_, rfl⟩ | ⟨c4920_, c4921_, c4922_, c4923_, c4924_, c4925_, c4926_, c4927_, c4928_, c4929_, c4930_, c4931_, c4932_, c4933_, c4934_, c4935_, rfl⟩
    · skip
      exfalso
      have z0_ := tz_eq_r rfl (show (13 : Int32).toInt = 13 by decide)
      have z1_ := tz_eq_r c4875_ (show (0 : Int32).toInt = 0 by decide)
      omega
    · skip
      exfalso
      have z0_ := tz_eq_r rfl (show (13 : Int32).toInt = 13 by decide)
      have z1_ := tz_eq_r c4876_ (show (1 : Int32).toInt = 1 by decide)
      omega
    · skip
      exfalso
      have z0_ := tz_eq_r rfl (show (13 : Int32).toInt = 13 by decide)
      have z1_ := tz_eq_r c4877_ (show (2 : Int32).toInt = 2 by decide)
      omega
    · skip
      exfalso
      have z0_ := tz_eq_r rfl (show (13 : Int32).toInt = 13 by decide)
      have z1_ := tz_eq_r c4878_ (show (3 : Int32).toInt = 3 by decide)
      omega
    · skip
      exfalso
      have z0_ := tz_eq_r rfl (show (13 : Int32).toInt = 13 by decide)
      have z1_ := tz_eq_r c4879_ (show (4 : Int32).toInt = 4 by decide)
      omega
    · skip
      exfalso
      have z0_ := tz_eq_r rfl (show (13 : Int32).toInt = 13 by decide)
      have z1_ := tz_eq_r c4880_ (show (5 : Int32).toInt = 5 by decide)
      omega
    · skip
      exfalso
      have z0_ := tz_eq_r rfl (show (13 : Int32).toInt = 13 by decide)
      have z1_ := tz_eq_r c4881_ (show (6 : Int32).toInt = 6 by decide)
      omega
    · skip
      exfalso
      have z0_ := tz_eq_r rfl (show (13 : Int32).toInt = 13 by decide)
      have z1_ := tz_eq_r c4882_ (show (7 : Int32).toInt = 7 by decide)
      omega
    · skip
      exfalso
      have z0_ := tz_eq_r rfl (show (13 : Int32).toInt = 13 by decide)
      have z1_ := tz_eq_r c4883_ (show (8 : Int32).toInt = 8 by decide)
      omega
    · skip
      exfalso
      have z0_ := tz_eq_r rfl (show (13 : Int32).toInt = 13 by decide)
      have z1_ := tz_eq_r c4884_ (show (9 : Int32).toInt = 9 by decide)
      omega
    · skip
      exfalso
      have z0_ := tz_eq_r rfl (show (13 : Int32).toInt = 13 by decide)
      have z1_ := tz_eq_r c4885_ (show (10 : Int32).toInt = 10 by decide)
      omega
    · skip
      exfalso
      have z0_ := tz_eq_r rfl (show (13 : Int32).toInt = 13 by decide)
      have z1_ := tz_eq_r c4886_ (show (11 : Int32).toInt = 11 by decide)
      omega
    · skip
      exfalso
      have z0_ := tz_eq_r rfl (show (13 : Int32).toInt = 13 by decide)
      have z1_ := tz_eq_r c4887_ (show (12 : Int32).toInt = 12 by decide)
      omega
    · skip
      refine lv_icmp_eq (tgt := 983) hx hb dL_law_965 (by decide) (fun _ => ?_) (fun c9_ => absurd (by decide) c9_)
      refine lv_iinc (v := 6) (lv' := [(3, .int 6), (2, .ref (b 0)), (1, .ref (a 0)), (0, .ref sc)]) hx hb dL_law_983 hl (k := 0) rfl (by decide) (by decide) rfl (fun ls hl => ?_)
      refine lv_goto (tgt := 18) hx hb dL_law_986 (by decide) ?_
      refine lv_iload_n hx hb dL_law_18 rfl (lv_at hl 0 rfl) ?_
      refine lv_aload_n hx hb dL_law_19 rfl (lv_at hl 3 rfl) ?_
      refine va_slen hx hb hX hbl hbA hS dL_law_20 ?_
      refine tk_i 6 (by decide) ?_
      refine lv_bipush (v := 6) hx hb dL_law_21 (by decide) ?_
      refine lv_isub hx hb dL_law_23 ?_
      refine tk_i 0 (by decide) ?_
      refine lv_icmp_gt (tgt := 989) hx hb dL_law_24 (by decide) (fun _ => ?_) (fun c9_ => absurd (by decide) c9_)
      refine lv_iconst (v := 1) hx hb dL_law_989 (by decide) ?_
      refine va_forget (fun q hq => by have h := hS.2.2 q hq; rw [hAe] at h; exact h) ?_
      refine W.widen (k := 600000) (n := 7302249) (Nat.le_of_ble_eq_true rfl) (Nat.le_of_ble_eq_true rfl) ?_
      exact lw_ret hx hb hr hlocks dL_law_990
    · skip
      subst rfl
      subst rfl
      subst rfl
      subst rfl
      subst rfl
      subst rfl
      subst rfl
      subst rfl
      subst rfl
      subst rfl
      subst rfl
      subst rfl
      subst rfl
      exfalso
      have z0_ := tz_eq_r rfl (show (13 : Int32).toInt = 13 by decide)
      have z1_ := tz_neq_r c4902_ (show (13 : Int32).toInt = 13 by decide)
      omega
    · skip
      subst rfl
      subst rfl
      subst rfl
      subst rfl
      subst rfl
      subst rfl
      subst rfl
      subst rfl
      subst rfl
      subst rfl
      subst rfl
      subst rfl
      subst rfl
      exfalso
      have z0_ := tz_eq_r rfl (show (13 : Int32).toInt = 13 by decide)
      have z1_ := tz_neq_r c4917_ (show (13 : Int32).toInt = 13 by decide)
      omega
    · skip
      subst rfl
      subst rfl
      subst rfl
      subst rfl
      subst rfl
      subst rfl
      subst rfl
      subst rfl
      subst rfl
      subst rfl
      subst rfl
      subst rfl
      subst rfl
      exfalso
      have z0_ := tz_eq_r rfl (show (13 : Int32).toInt = 13 by decide)
      have z1_ := tz_neq_r c4933_ (show (13 : Int32).toInt = 13 by decide)
      omega
  · skip
    refine lv_aload_n hx hb dL_law_956 rfl (lv_at hl 1 rfl) ?_
    refine lv_aload_n hx hb dL_law_957 rfl (lv_at hl 3 rfl) ?_
    refine lv_iload_n hx hb dL_law_958 rfl (lv_at hl 0 rfl) ?_
    refine lv_iconst (v := 1) hx hb dL_law_959 (by decide) ?_
    refine lv_iadd hx hb dL_law_960 ?_
    refine tk_i 1 (by decide) ?_
    refine va_sld hx hb hX hbl hbA hS (show ¬ ((1 : Int32) < 0 ∨ 6 ≤ Int32.toNatClampNeg 1) by decide) dL_law_961 ?_
    refine tk_i x1 ex1 ?_
    have hPc : va_P (dC, dI) vwCl (mw b cy) _ := hP.sub [56, 57, 58, 59, 60, 61, 62, 63] rfl
    have hDc := hD.sub (ws' := mw b cy) [56, 57, 58, 59, 60, 61, 62, 63] (by decide) rfl
    have hFc := va_free (wc := mw b cy) hD hS hA [56, 57, 58, 59, 60, 61, 62, 63] rfl
    refine va_calli (va_runV (As := [.int x1]) (rest := [.int (-1)]) ⟨hx, hb, hml, hown, hts⟩ (c_X12_count l dC dI cy b _ x1) (cwV 1 hts g_L_law_X12_count_130 rfl rfl rfl (by decide +kernel) ⟨Nat.le_of_ble_eq_true rfl, Nat.le_of_ble_eq_true rfl⟩) (pv_ps hC hPc hDc (ci := 12) (q0 := 0) rfl rfl) rfl rfl hl.1 rfl (lv_room (Nat.le_of_ble_eq_true rfl)) dL_law_962 ⟨Nat.le_of_ble_eq_true rfl, Nat.le_of_ble_eq_true rfl⟩) hS (fun q _ h => hFc q h) hFc (fun r_ u t_ H1 locs ht hvm hw hB hz1 hk1 hS => ?_)
    obtain ⟨hP, hD⟩ := va_join (wr := []) (w1 := []) hP hD [56, 57, 58, 59, 60, 61, 62, 63] [] rfl rfl (by decide) (by decide) hk1 hFc va_P0 va_D0
    generalize H1 = H at hP hS ⊢
    have hP : va_P (dC, dI) vwCl ([]) H := hP
    have hD : va_D A ([]) := hD
    rcases hw with ⟨c4936_, rfl⟩ | ⟨c4937_, rfl⟩ | ⟨c4938_, rfl⟩ | ⟨c4939_, rfl⟩ | ⟨c4940_, rfl⟩ | ⟨c4941_, rfl⟩ | ⟨c4942_, rfl⟩ | ⟨c4943_, rfl⟩ | ⟨c4944_, rfl⟩ | ⟨c4945_, rfl⟩ | ⟨c4946_, rfl⟩ | ⟨c4947_, rfl⟩ | ⟨c4948_, rfl⟩ | ⟨c4949_, rfl⟩ | ⟨c4950_, c4951_, c4952_, c4953_, c4954_, c4955_, c4956_, c4957_, c4958_, c4959_, c4960_, c4961_, c4962_, c4963_, c4964_, rfl⟩ | ⟨c4965_, c4966_, c4967_, c4968_, c4969_, c4970_, c4971_, c4972_, c4973_, c4974_, c4975_, c4976_, c4977_, c4978_, c4979_, c4980_, rfl⟩ | ⟨c4981_, c4982_, c4983_, c4984_, c4985_, c4986_, c4987_, c4988_, c4989_, c4990_, c4991_, c4992_, c4993_, c4994_, c4995_, c4996_, rfl⟩
    · skip
      exfalso
      have z0_ := tz_neq_r c4035_ (show (0 : Int32).toInt = 0 by decide)
      have z1_ := tz_neq_r c4036_ (show (1 : Int32).toInt = 1 by decide)
      have z2_ := tz_neq_r c4037_ (show (2 : Int32).toInt = 2 by decide)
      have z3_ := tz_neq_r c4038_ (show (3 : Int32).toInt = 3 by decide)
      have z4_ := tz_neq_r c4039_ (show (4 : Int32).toInt = 4 by decide)
      have z5_ := tz_neq_r c4040_ (show (5 : Int32).toInt = 5 by decide)
      have z6_ := tz_neq_r c4041_ (show (6 : Int32).toInt = 6 by decide)
      have z7_ := tz_neq_r c4042_ (show (7 : Int32).toInt = 7 by decide)
      have z8_ := tz_neq_r c4043_ (show (8 : Int32).toInt = 8 by decide)
      have z9_ := tz_neq_r c4044_ (show (9 : Int32).toInt = 9 by decide)
      have z10_ := tz_neq_r c4045_ (show (10 : Int32).toInt = 10 by decide)
      have z11_ := tz_neq_r c4046_ (show (11 : Int32).toInt = 11 by decide)
      have z12_ := tz_neq_r c4047_ (show (12 : Int32).toInt = 12 by decide)
      have z13_ := tz_neq_r c4048_ (show (13 : Int32).toInt = 13 by decide)
      have z14_ := tz_lt_r c4049_ (show (14 : Int32).toInt = 14 by decide)
      have z15_ := tz_eq_r c4936_ (show (0 : Int32).toInt = 0 by decide)
      omega
    · skip
      exfalso
      have z0_ := tz_neq_r c4035_ (show (0 : Int32).toInt = 0 by decide)
      have z1_ := tz_neq_r c4036_ (show (1 : Int32).toInt = 1 by decide)
      have z2_ := tz_neq_r c4037_ (show (2 : Int32).toInt = 2 by decide)
      have z3_ := tz_neq_r c4038_ (show (3 : Int32).toInt = 3 by decide)
      have z4_ := tz_neq_r c4039_ (show (4 : Int32).toInt = 4 by decide)
      have z5_ := tz_neq_r c4040_ (show (5 : Int32).toInt = 5 by decide)
      have z6_ := tz_neq_r c4041_ (show (6 : Int32).toInt = 6 by decide)
      have z7_ := tz_neq_r c4042_ (show (7 : Int32).toInt = 7 by decide)
      have z8_ := tz_neq_r c4043_ (show (8 : Int32).toInt = 8 by decide)
      have z9_ := tz_neq_r c4044_ (show (9 : Int32).toInt = 9 by decide)
      have z10_ := tz_neq_r c4045_ (show (10 : Int32).toInt = 10 by decide)
      have z11_ := tz_neq_r c4046_ (show (11 : Int32).toInt = 11 by decide)
      have z12_ := tz_neq_r c4047_ (show (12 : Int32).toInt = 12 by decide)
      have z13_ := tz_neq_r c4048_ (show (13 : Int32).toInt = 13 by decide)
      have z14_ := tz_lt_r c4049_ (show (14 : Int32).toInt = 14 by decide)
      have z15_ := tz_eq_r c4937_ (show (1 : Int32).toInt = 1 by decide)
      omega
    · skip
      exfalso
      have z0_ := tz_neq_r c4035_ (show (0 : Int32).toInt = 0 by decide)
      have z1_ := tz_neq_r c4036_ (show (1 : Int32).toInt = 1 by decide)
      have z2_ := tz_neq_r c4037_ (show (2 : Int32).toInt = 2 by decide)
      have z3_ := tz_neq_r c4038_ (show (3 : Int32).toInt = 3 by decide)
      have z4_ := tz_neq_r c4039_ (show (4 : Int32).toInt = 4 by decide)
      have z5_ := tz_neq_r c4040_ (show (5 : Int32).toInt = 5 by decide)
      have z6_ := tz_neq_r c4041_ (show (6 : Int32).toInt = 6 by decide)
      have z7_ := tz_neq_r c4042_ (show (7 : Int32).toInt = 7 by decide)
      have z8_ := tz_neq_r c4043_ (show (8 : Int32).toInt = 8 by decide)
      have z9_ := tz_neq_r c4044_ (show (9 : Int32).toInt = 9 by decide)
      have z10_ := tz_neq_r c4045_ (show (10 : Int32).toInt = 10 by decide)
      have z11_ := tz_neq_r c4046_ (show (11 : Int32).toInt = 11 by decide)
      have z12_ := tz_neq_r c4047_ (show (12 : Int32).toInt = 12 by decide)
      have z13_ := tz_neq_r c4048_ (show (13 : Int32).toInt = 13 by decide)
      have z14_ := tz_lt_r c4049_ (show (14 : Int32).toInt = 14 by decide)
      have z15_ := tz_eq_r c4938_ (show (2 : Int32).toInt = 2 by decide)
      omega
    · skip
      exfalso
      have z0_ := tz_neq_r c4035_ (show (0 : Int32).toInt = 0 by decide)
      have z1_ := tz_neq_r c4036_ (show (1 : Int32).toInt = 1 by decide)
      have z2_ := tz_neq_r c4037_ (show (2 : Int32).toInt = 2 by decide)
      have z3_ := tz_neq_r c4038_ (show (3 : Int32).toInt = 3 by decide)
      have z4_ := tz_neq_r c4039_ (show (4 : Int32).toInt = 4 by decide)
      have z5_ := tz_neq_r c4040_ (show (5 : Int32).toInt = 5 by decide)
      have z6_ := tz_neq_r c4041_ (show (6 : Int32).toInt = 6 by decide)
      have z7_ := tz_neq_r c4042_ (show (7 : Int32).toInt = 7 by decide)
      have z8_ := tz_neq_r c4043_ (show (8 : Int32).toInt = 8 by decide)
      have z9_ := tz_neq_r c4044_ (show (9 : Int32).toInt = 9 by decide)
      have z10_ := tz_neq_r c4045_ (show (10 : Int32).toInt = 10 by decide)
      have z11_ := tz_neq_r c4046_ (show (11 : Int32).toInt = 11 by decide)
      have z12_ := tz_neq_r c4047_ (show (12 : Int32).toInt = 12 by decide)
      have z13_ := tz_neq_r c4048_ (show (13 : Int32).toInt = 13 by decide)
      have z14_ := tz_lt_r c4049_ (show (14 : Int32).toInt = 14 by decide)
      have z15_ := tz_eq_r c4939_ (show (3 : Int32).toInt = 3 by decide)
      omega
    · skip
      exfalso
      have z0_ := tz_neq_r c4035_ (show (0 : Int32).toInt = 0 by decide)
      have z1_ := tz_neq_r c4036_ (show (1 : Int32).toInt = 1 by decide)
      have z2_ := tz_neq_r c4037_ (show (2 : Int32).toInt = 2 by decide)
      have z3_ := tz_neq_r c4038_ (show (3 : Int32).toInt = 3 by decide)
      have z4_ := tz_neq_r c4039_ (show (4 : Int32).toInt = 4 by decide)
      have z5_ := tz_neq_r c4040_ (show (5 : Int32).toInt = 5 by decide)
      have z6_ := tz_neq_r c4041_ (show (6 : Int32).toInt = 6 by decide)
      have z7_ := tz_neq_r c4042_ (show (7 : Int32).toInt = 7 by decide)
      have z8_ := tz_neq_r c4043_ (show (8 : Int32).toInt = 8 by decide)
      have z9_ := tz_neq_r c4044_ (show (9 : Int32).toInt = 9 by decide)
      have z10_ := tz_neq_r c4045_ (show (10 : Int32).toInt = 10 by decide)
      have z11_ := tz_neq_r c4046_ (show (11 : Int32).toInt = 11 by decide)
      have z12_ := tz_neq_r c4047_ (show (12 : Int32).toInt = 12 by decide)
      have z13_ := tz_neq_r c4048_ (show (13 : Int32).toInt = 13 by decide)
      have z14_ := tz_lt_r c4049_ (show (14 : Int32).toInt = 14 by decide)
      have z15_ := tz_eq_r c4940_ (show (4 : Int32).toInt = 4 by decide)
      omega
    · skip
      exfalso
      have z0_ := tz_neq_r c4035_ (show (0 : Int32).toInt = 0 by decide)
      have z1_ := tz_neq_r c4036_ (show (1 : Int32).toInt = 1 by decide)
      have z2_ := tz_neq_r c4037_ (show (2 : Int32).toInt = 2 by decide)
      have z3_ := tz_neq_r c4038_ (show (3 : Int32).toInt = 3 by decide)
      have z4_ := tz_neq_r c4039_ (show (4 : Int32).toInt = 4 by decide)
      have z5_ := tz_neq_r c4040_ (show (5 : Int32).toInt = 5 by decide)
      have z6_ := tz_neq_r c4041_ (show (6 : Int32).toInt = 6 by decide)
      have z7_ := tz_neq_r c4042_ (show (7 : Int32).toInt = 7 by decide)
      have z8_ := tz_neq_r c4043_ (show (8 : Int32).toInt = 8 by decide)
      have z9_ := tz_neq_r c4044_ (show (9 : Int32).toInt = 9 by decide)
      have z10_ := tz_neq_r c4045_ (show (10 : Int32).toInt = 10 by decide)
      have z11_ := tz_neq_r c4046_ (show (11 : Int32).toInt = 11 by decide)
      have z12_ := tz_neq_r c4047_ (show (12 : Int32).toInt = 12 by decide)
      have z13_ := tz_neq_r c4048_ (show (13 : Int32).toInt = 13 by decide)
      have z14_ := tz_lt_r c4049_ (show (14 : Int32).toInt = 14 by decide)
      have z15_ := tz_eq_r c4941_ (show (5 : Int32).toInt = 5 by decide)
      omega
    · skip
      exfalso
      have z0_ := tz_neq_r c4035_ (show (0 : Int32).toInt = 0 by decide)
      have z1_ := tz_neq_r c4036_ (show (1 : Int32).toInt = 1 by decide)
      have z2_ := tz_neq_r c4037_ (show (2 : Int32).toInt = 2 by decide)
      have z3_ := tz_neq_r c4038_ (show (3 : Int32).toInt = 3 by decide)
      have z4_ := tz_neq_r c4039_ (show (4 : Int32).toInt = 4 by decide)
      have z5_ := tz_neq_r c4040_ (show (5 : Int32).toInt = 5 by decide)
      have z6_ := tz_neq_r c4041_ (show (6 : Int32).toInt = 6 by decide)
      have z7_ := tz_neq_r c4042_ (show (7 : Int32).toInt = 7 by decide)
      have z8_ := tz_neq_r c4043_ (show (8 : Int32).toInt = 8 by decide)
      have z9_ := tz_neq_r c4044_ (show (9 : Int32).toInt = 9 by decide)
      have z10_ := tz_neq_r c4045_ (show (10 : Int32).toInt = 10 by decide)
      have z11_ := tz_neq_r c4046_ (show (11 : Int32).toInt = 11 by decide)
      have z12_ := tz_neq_r c4047_ (show (12 : Int32).toInt = 12 by decide)
      have z13_ := tz_neq_r c4048_ (show (13 : Int32).toInt = 13 by decide)
      have z14_ := tz_lt_r c4049_ (show (14 : Int32).toInt = 14 by decide)
      have z15_ := tz_eq_r c4942_ (show (6 : Int32).toInt = 6 by decide)
      omega
    · skip
      exfalso
      have z0_ := tz_neq_r c4035_ (show (0 : Int32).toInt = 0 by decide)
      have z1_ := tz_neq_r c4036_ (show (1 : Int32).toInt = 1 by decide)
      have z2_ := tz_neq_r c4037_ (show (2 : Int32).toInt = 2 by decide)
      have z3_ := tz_neq_r c4038_ (show (3 : Int32).toInt = 3 by decide)
      have z4_ := tz_neq_r c4039_ (show (4 : Int32).toInt = 4 by decide)
      have z5_ := tz_neq_r c4040_ (show (5 : Int32).toInt = 5 by decide)
      have z6_ := tz_neq_r c4041_ (show (6 : Int32).toInt = 6 by decide)
      have z7_ := tz_neq_r c4042_ (show (7 : Int32).toInt = 7 by decide)
      have z8_ := tz_neq_r c4043_ (show (8 : Int32).toInt = 8 by decide)
      have z9_ := tz_neq_r c4044_ (show (9 : Int32).toInt = 9 by decide)
      have z10_ := tz_neq_r c4045_ (show (10 : Int32).toInt = 10 by decide)
      have z11_ := tz_neq_r c4046_ (show (11 : Int32).toInt = 11 by decide)
      have z12_ := tz_neq_r c4047_ (show (12 : Int32).toInt = 12 by decide)
      have z13_ := tz_neq_r c4048_ (show (13 : Int32).toInt = 13 by decide)
      have z14_ := tz_lt_r c4049_ (show (14 : Int32).toInt = 14 by decide)
      have z15_ := tz_eq_r c4943_ (show (7 : Int32).toInt = 7 by decide)
      omega
    · skip
      exfalso
      have z0_ := tz_neq_r c4035_ (show (0 : Int32).toInt = 0 by decide)
      have z1_ := tz_neq_r c4036_ (show (1 : Int32).toInt = 1 by decide)
      have z2_ := tz_neq_r c4037_ (show (2 : Int32).toInt = 2 by decide)
      have z3_ := tz_neq_r c4038_ (show (3 : Int32).toInt = 3 by decide)
      have z4_ := tz_neq_r c4039_ (show (4 : Int32).toInt = 4 by decide)
      have z5_ := tz_neq_r c4040_ (show (5 : Int32).toInt = 5 by decide)
      have z6_ := tz_neq_r c4041_ (show (6 : Int32).toInt = 6 by decide)
      have z7_ := tz_neq_r c4042_ (show (7 : Int32).toInt = 7 by decide)
      have z8_ := tz_neq_r c4043_ (show (8 : Int32).toInt = 8 by decide)
      have z9_ := tz_neq_r c4044_ (show (9 : Int32).toInt = 9 by decide)
      have z10_ := tz_neq_r c4045_ (show (10 : Int32).toInt = 10 by decide)
      have z11_ := tz_neq_r c4046_ (show (11 : Int32).toInt = 11 by decide)
      have z12_ := tz_neq_r c4047_ (show (12 : Int32).toInt = 12 by decide)
      have z13_ := tz_neq_r c4048_ (show (13 : Int32).toInt = 13 by decide)
      have z14_ := tz_lt_r c4049_ (show (14 : Int32).toInt = 14 by decide)
      have z15_ := tz_eq_r c4944_ (show (8 : Int32).toInt = 8 by decide)
      omega
    · skip
      exfalso
      have z0_ := tz_neq_r c4035_ (show (0 : Int32).toInt = 0 by decide)
      have z1_ := tz_neq_r c4036_ (show (1 : Int32).toInt = 1 by decide)
      have z2_ := tz_neq_r c4037_ (show (2 : Int32).toInt = 2 by decide)
      have z3_ := tz_neq_r c4038_ (show (3 : Int32).toInt = 3 by decide)
      have z4_ := tz_neq_r c4039_ (show (4 : Int32).toInt = 4 by decide)
      have z5_ := tz_neq_r c4040_ (show (5 : Int32).toInt = 5 by decide)
      have z6_ := tz_neq_r c4041_ (show (6 : Int32).toInt = 6 by decide)
      have z7_ := tz_neq_r c4042_ (show (7 : Int32).toInt = 7 by decide)
      have z8_ := tz_neq_r c4043_ (show (8 : Int32).toInt = 8 by decide)
      have z9_ := tz_neq_r c4044_ (show (9 : Int32).toInt = 9 by decide)
      have z10_ := tz_neq_r c4045_ (show (10 : Int32).toInt = 10 by decide)
      have z11_ := tz_neq_r c4046_ (show (11 : Int32).toInt = 11 by decide)
      have z12_ := tz_neq_r c4047_ (show (12 : Int32).toInt = 12 by decide)
      have z13_ := tz_neq_r c4048_ (show (13 : Int32).toInt = 13 by decide)
      have z14_ := tz_lt_r c4049_ (show (14 : Int32).toInt = 14 by decide)
      have z15_ := tz_eq_r c4945_ (show (9 : Int32).toInt = 9 by decide)
      omega
    · skip
      exfalso
      have z0_ := tz_neq_r c4035_ (show (0 : Int32).toInt = 0 by decide)
      have z1_ := tz_neq_r c4036_ (show (1 : Int32).toInt = 1 by decide)
      have z2_ := tz_neq_r c4037_ (show (2 : Int32).toInt = 2 by decide)
      have z3_ := tz_neq_r c4038_ (show (3 : Int32).toInt = 3 by decide)
      have z4_ := tz_neq_r c4039_ (show (4 : Int32).toInt = 4 by decide)
      have z5_ := tz_neq_r c4040_ (show (5 : Int32).toInt = 5 by decide)
      have z6_ := tz_neq_r c4041_ (show (6 : Int32).toInt = 6 by decide)
      have z7_ := tz_neq_r c4042_ (show (7 : Int32).toInt = 7 by decide)
      have z8_ := tz_neq_r c4043_ (show (8 : Int32).toInt = 8 by decide)
      have z9_ := tz_neq_r c4044_ (show (9 : Int32).toInt = 9 by decide)
      have z10_ := tz_neq_r c4045_ (show (10 : Int32).toInt = 10 by decide)
      have z11_ := tz_neq_r c4046_ (show (11 : Int32).toInt = 11 by decide)
      have z12_ := tz_neq_r c4047_ (show (12 : Int32).toInt = 12 by decide)
      have z13_ := tz_neq_r c4048_ (show (13 : Int32).toInt = 13 by decide)
      have z14_ := tz_lt_r c4049_ (show (14 : Int32).toInt = 14 by decide)
      have z15_ := tz_eq_r c4946_ (show (10 : Int32).toInt = 10 by decide)
      omega
    · skip
      exfalso
      have z0_ := tz_neq_r c4035_ (show (0 : Int32).toInt = 0 by decide)
      have z1_ := tz_neq_r c4036_ (show (1 : Int32).toInt = 1 by decide)
      have z2_ := tz_neq_r c4037_ (show (2 : Int32).toInt = 2 by decide)
      have z3_ := tz_neq_r c4038_ (show (3 : Int32).toInt = 3 by decide)
      have z4_ := tz_neq_r c4039_ (show (4 : Int32).toInt = 4 by decide)
      have z5_ := tz_neq_r c4040_ (show (5 : Int32).toInt = 5 by decide)
      have z6_ := tz_neq_r c4041_ (show (6 : Int32).toInt = 6 by decide)
      have z7_ := tz_neq_r c4042_ (show (7 : Int32).toInt = 7 by decide)
      have z8_ := tz_neq_r c4043_ (show (8 : Int32).toInt = 8 by decide)
      have z9_ := tz_neq_r c4044_ (show (9 : Int32).toInt = 9 by decide)
      have z10_ := tz_neq_r c4045_ (show (10 : Int32).toInt = 10 by decide)
      have z11_ := tz_neq_r c4046_ (show (11 : Int32).toInt = 11 by decide)
      have z12_ := tz_neq_r c4047_ (show (12 : Int32).toInt = 12 by decide)
      have z13_ := tz_neq_r c4048_ (show (13 : Int32).toInt = 13 by decide)
      have z14_ := tz_lt_r c4049_ (show (14 : Int32).toInt = 14 by decide)
      have z15_ := tz_eq_r c4947_ (show (11 : Int32).toInt = 11 by decide)
      omega
    · skip
      exfalso
      have z0_ := tz_neq_r c4035_ (show (0 : Int32).toInt = 0 by decide)
      have z1_ := tz_neq_r c4036_ (show (1 : Int32).toInt = 1 by decide)
      have z2_ := tz_neq_r c4037_ (show (2 : Int32).toInt = 2 by decide)
      have z3_ := tz_neq_r c4038_ (show (3 : Int32).toInt = 3 by decide)
      have z4_ := tz_neq_r c4039_ (show (4 : Int32).toInt = 4 by decide)
      have z5_ := tz_neq_r c4040_ (show (5 : Int32).toInt = 5 by decide)
      have z6_ := tz_neq_r c4041_ (show (6 : Int32).toInt = 6 by decide)
      have z7_ := tz_neq_r c4042_ (show (7 : Int32).toInt = 7 by decide)
      have z8_ := tz_neq_r c4043_ (show (8 : Int32).toInt = 8 by decide)
      have z9_ := tz_neq_r c4044_ (show (9 : Int32).toInt = 9 by decide)
      have z10_ := tz_neq_r c4045_ (show (10 : Int32).toInt = 10 by decide)
      have z11_ := tz_neq_r c4046_ (show (11 : Int32).toInt = 11 by decide)
      have z12_ := tz_neq_r c4047_ (show (12 : Int32).toInt = 12 by decide)
      have z13_ := tz_neq_r c4048_ (show (13 : Int32).toInt = 13 by decide)
      have z14_ := tz_lt_r c4049_ (show (14 : Int32).toInt = 14 by decide)
      have z15_ := tz_eq_r c4948_ (show (12 : Int32).toInt = 12 by decide)
      omega
    · skip
      exfalso
      have z0_ := tz_neq_r c4035_ (show (0 : Int32).toInt = 0 by decide)
      have z1_ := tz_neq_r c4036_ (show (1 : Int32).toInt = 1 by decide)
      have z2_ := tz_neq_r c4037_ (show (2 : Int32).toInt = 2 by decide)
      have z3_ := tz_neq_r c4038_ (show (3 : Int32).toInt = 3 by decide)
      have z4_ := tz_neq_r c4039_ (show (4 : Int32).toInt = 4 by decide)
      have z5_ := tz_neq_r c4040_ (show (5 : Int32).toInt = 5 by decide)
      have z6_ := tz_neq_r c4041_ (show (6 : Int32).toInt = 6 by decide)
      have z7_ := tz_neq_r c4042_ (show (7 : Int32).toInt = 7 by decide)
      have z8_ := tz_neq_r c4043_ (show (8 : Int32).toInt = 8 by decide)
      have z9_ := tz_neq_r c4044_ (show (9 : Int32).toInt = 9 by decide)
      have z10_ := tz_neq_r c4045_ (show (10 : Int32).toInt = 10 by decide)
      have z11_ := tz_neq_r c4046_ (show (11 : Int32).toInt = 11 by decide)
      have z12_ := tz_neq_r c4047_ (show (12 : Int32).toInt = 12 by decide)
      have z13_ := tz_neq_r c4048_ (show (13 : Int32).toInt = 13 by decide)
      have z14_ := tz_lt_r c4049_ (show (14 : Int32).toInt = 14 by decide)
      have z15_ := tz_eq_r c4949_ (show (13 : Int32).toInt = 13 by decide)
      omega
    · skip
      refine lv_icmp_eq (tgt := 983) hx hb dL_law_965 (by decide) (fun _ => ?_) (fun c9_ => absurd (by decide) c9_)
      refine lv_iinc (v := 6) (lv' := [(3, .int 6), (2, .ref (b 0)), (1, .ref (a 0)), (0, .ref sc)]) hx hb dL_law_983 hl (k := 0) rfl (by decide) (by decide) rfl (fun ls hl => ?_)
      refine lv_goto (tgt := 18) hx hb dL_law_986 (by decide) ?_
      refine lv_iload_n hx hb dL_law_18 rfl (lv_at hl 0 rfl) ?_
      refine lv_aload_n hx hb dL_law_19 rfl (lv_at hl 3 rfl) ?_
      refine va_slen hx hb hX hbl hbA hS dL_law_20 ?_
      refine tk_i 6 (by decide) ?_
      refine lv_bipush (v := 6) hx hb dL_law_21 (by decide) ?_
      refine lv_isub hx hb dL_law_23 ?_
      refine tk_i 0 (by decide) ?_
      refine lv_icmp_gt (tgt := 989) hx hb dL_law_24 (by decide) (fun _ => ?_) (fun c9_ => absurd (by decide) c9_)
      refine lv_iconst (v := 1) hx hb dL_law_989 (by decide) ?_
      refine va_forget (fun q hq => by have h := hS.2.2 q hq; rw [hAe] at h; exact h) ?_
      refine W.widen (k := 600000) (n := 7302249) (Nat.le_of_ble_eq_true rfl) (Nat.le_of_ble_eq_true rfl) ?_
      exact lw_ret hx hb hr hlocks dL_law_990
    · skip
      exfalso
      have z0_ := tz_neq_r c4035_ (show (0 : Int32).toInt = 0 by decide)
      have z1_ := tz_neq_r c4036_ (show (1 : Int32).toInt = 1 by decide)
      have z2_ := tz_neq_r c4037_ (show (2 : Int32).toInt = 2 by decide)
      have z3_ := tz_neq_r c4038_ (show (3 : Int32).toInt = 3 by decide)
      have z4_ := tz_neq_r c4039_ (show (4 : Int32).toInt = 4 by decide)
      have z5_ := tz_neq_r c4040_ (show (5 : Int32).toInt = 5 by decide)
      have z6_ := tz_neq_r c4041_ (show (6 : Int32).toInt = 6 by decide)
      have z7_ := tz_neq_r c4042_ (show (7 : Int32).toInt = 7 by decide)
      have z8_ := tz_neq_r c4043_ (show (8 : Int32).toInt = 8 by decide)
      have z9_ := tz_neq_r c4044_ (show (9 : Int32).toInt = 9 by decide)
      have z10_ := tz_neq_r c4045_ (show (10 : Int32).toInt = 10 by decide)
      have z11_ := tz_neq_r c4046_ (show (11 : Int32).toInt = 11 by decide)
      have z12_ := tz_neq_r c4047_ (show (12 : Int32).toInt = 12 by decide)
      have z13_ := tz_neq_r c4048_ (show (13 : Int32).toInt = 13 by decide)
      have z14_ := tz_lt_r c4049_ (show (14 : Int32).toInt = 14 by decide)
      have z15_ := tz_nlt_r c4979_ (show (14 : Int32).toInt = 14 by decide)
      omega
    · skip
      exfalso
      have z0_ := tz_neq_r c4035_ (show (0 : Int32).toInt = 0 by decide)
      have z1_ := tz_neq_r c4036_ (show (1 : Int32).toInt = 1 by decide)
      have z2_ := tz_neq_r c4037_ (show (2 : Int32).toInt = 2 by decide)
      have z3_ := tz_neq_r c4038_ (show (3 : Int32).toInt = 3 by decide)
      have z4_ := tz_neq_r c4039_ (show (4 : Int32).toInt = 4 by decide)
      have z5_ := tz_neq_r c4040_ (show (5 : Int32).toInt = 5 by decide)
      have z6_ := tz_neq_r c4041_ (show (6 : Int32).toInt = 6 by decide)
      have z7_ := tz_neq_r c4042_ (show (7 : Int32).toInt = 7 by decide)
      have z8_ := tz_neq_r c4043_ (show (8 : Int32).toInt = 8 by decide)
      have z9_ := tz_neq_r c4044_ (show (9 : Int32).toInt = 9 by decide)
      have z10_ := tz_neq_r c4045_ (show (10 : Int32).toInt = 10 by decide)
      have z11_ := tz_neq_r c4046_ (show (11 : Int32).toInt = 11 by decide)
      have z12_ := tz_neq_r c4047_ (show (12 : Int32).toInt = 12 by decide)
      have z13_ := tz_neq_r c4048_ (show (13 : Int32).toInt = 13 by decide)
      have z14_ := tz_lt_r c4049_ (show (14 : Int32).toInt = 14 by decide)
      have z15_ := tz_nlt_r c4995_ (show (14 : Int32).toInt = 14 by decide)
      omega
  · skip
    refine lv_aload_n hx hb dL_law_956 rfl (lv_at hl 1 rfl) ?_
    refine lv_aload_n hx hb dL_law_957 rfl (lv_at hl 3 rfl) ?_
    refine lv_iload_n hx hb dL_law_958 rfl (lv_at hl 0 rfl) ?_
    refine lv_iconst (v := 1) hx hb dL_law_959 (by decide) ?_
    refine lv_iadd hx hb dL_law_960 ?_
    refine tk_i 1 (by decide) ?_
    refine va_sld hx hb hX hbl hbA hS (show ¬ ((1 : Int32) < 0 ∨ 6 ≤ Int32.toNatClampNeg 1) by decide) dL_law_961 ?_
    refine tk_i x1 ex1 ?_
    have hPc : va_P (dC, dI) vwCl (mw b cy) _ := hP.sub [56, 57, 58, 59, 60, 61, 62, 63] rfl
    have hDc := hD.sub (ws' := mw b cy) [56, 57, 58, 59, 60, 61, 62, 63] (by decide) rfl
    have hFc := va_free (wc := mw b cy) hD hS hA [56, 57, 58, 59, 60, 61, 62, 63] rfl
    refine va_calli (va_runV (As := [.int x1]) (rest := [.int (-1)]) ⟨hx, hb, hml, hown, hts⟩ (c_X12_count l dC dI cy b _ x1) (cwV 1 hts g_L_law_X12_count_130 rfl rfl rfl (by decide +kernel) ⟨Nat.le_of_ble_eq_true rfl, Nat.le_of_ble_eq_true rfl⟩) (pv_ps hC hPc hDc (ci := 12) (q0 := 0) rfl rfl) rfl rfl hl.1 rfl (lv_room (Nat.le_of_ble_eq_true rfl)) dL_law_962 ⟨Nat.le_of_ble_eq_true rfl, Nat.le_of_ble_eq_true rfl⟩) hS (fun q _ h => hFc q h) hFc (fun r_ u t_ H1 locs ht hvm hw hB hz1 hk1 hS => ?_)
    obtain ⟨hP, hD⟩ := va_join (wr := []) (w1 := []) hP hD [56, 57, 58, 59, 60, 61, 62, 63] [] rfl rfl (by decide) (by decide) hk1 hFc va_P0 va_D0
    generalize H1 = H at hP hS ⊢
    have hP : va_P (dC, dI) vwCl ([]) H := hP
    have hD : va_D A ([]) := hD
    rcases hw with ⟨c4997_, rfl⟩ | ⟨c4998_, rfl⟩ | ⟨c4999_, rfl⟩ | ⟨c5000_, rfl⟩ | ⟨c5001_, rfl⟩ | ⟨c5002_, rfl⟩ | ⟨c5003_, rfl⟩ | ⟨c5004_, rfl⟩ | ⟨c5005_, rfl⟩ | ⟨c5006_, rfl⟩ | ⟨c5007_, rfl⟩ | ⟨c5008_, rfl⟩ | ⟨c5009_, rfl⟩ | ⟨c5010_, rfl⟩ | ⟨c5011_, c5012_, c5013_, c5014_, c5015_, c5016_, c5017_, c5018_, c5019_, c5020_, c5021_, c5022_, c5023_, c5024_, c5025_, rfl⟩ | ⟨c5026_, c5027_, c5028_, c5029_, c5030_, c5031_, c5032_, c5033_, c5034_, c5035_, c5036_, c5037_, c5038_, c5039_, c5040_, c5041_, rfl⟩ | ⟨c5042_, c5043_, c5044_, c5045_, c5046_, c5047_, c5048_, c5049_, c5050_, c5051_, c5052_, c5053_, c5054_, c5055_, c5056_, c5057_, rfl⟩
    · skip
      exfalso
      have z0_ := tz_neq_r c4050_ (show (0 : Int32).toInt = 0 by decide)
      have z1_ := tz_neq_r c4051_ (show (1 : Int32).toInt = 1 by decide)
      have z2_ := tz_neq_r c4052_ (show (2 : Int32).toInt = 2 by decide)
      have z3_ := tz_neq_r c4053_ (show (3 : Int32).toInt = 3 by decide)
      have z4_ := tz_neq_r c4054_ (show (4 : Int32).toInt = 4 by decide)
      have z5_ := tz_neq_r c4055_ (show (5 : Int32).toInt = 5 by decide)
      have z6_ := tz_neq_r c4056_ (show (6 : Int32).toInt = 6 by decide)
      have z7_ := tz_neq_r c4057_ (show (7 : Int32).toInt = 7 by decide)
      have z8_ := tz_neq_r c4058_ (show (8 : Int32).toInt = 8 by decide)
      have z9_ := tz_neq_r c4059_ (show (9 : Int32).toInt = 9 by decide)
      have z10_ := tz_neq_r c4060_ (show (10 : Int32).toInt = 10 by decide)
      have z11_ := tz_neq_r c4061_ (show (11 : Int32).toInt = 11 by decide)
      have z12_ := tz_neq_r c4062_ (show (12 : Int32).toInt = 12 by decide)
      have z13_ := tz_neq_r c4063_ (show (13 : Int32).toInt = 13 by decide)
      have z14_ := tz_nlt_r c4064_ (show (14 : Int32).toInt = 14 by decide)
      have z15_ := tz_le_l c4065_ (show (21 : Int32).toInt = 21 by decide)
      have z16_ := tz_eq_r c4997_ (show (0 : Int32).toInt = 0 by decide)
      omega
    · skip
      exfalso
      have z0_ := tz_neq_r c4050_ (show (0 : Int32).toInt = 0 by decide)
      have z1_ := tz_neq_r c4051_ (show (1 : Int32).toInt = 1 by decide)
      have z2_ := tz_neq_r c4052_ (show (2 : Int32).toInt = 2 by decide)
      have z3_ := tz_neq_r c4053_ (show (3 : Int32).toInt = 3 by decide)
      have z4_ := tz_neq_r c4054_ (show (4 : Int32).toInt = 4 by decide)
      have z5_ := tz_neq_r c4055_ (show (5 : Int32).toInt = 5 by decide)
      have z6_ := tz_neq_r c4056_ (show (6 : Int32).toInt = 6 by decide)
      have z7_ := tz_neq_r c4057_ (show (7 : Int32).toInt = 7 by decide)
      have z8_ := tz_neq_r c4058_ (show (8 : Int32).toInt = 8 by decide)
      have z9_ := tz_neq_r c4059_ (show (9 : Int32).toInt = 9 by decide)
      have z10_ := tz_neq_r c4060_ (show (10 : Int32).toInt = 10 by decide)
      have z11_ := tz_neq_r c4061_ (show (11 : Int32).toInt = 11 by decide)
      have z12_ := tz_neq_r c4062_ (show (12 : Int32).toInt = 12 by decide)
      have z13_ := tz_neq_r c4063_ (show (13 : Int32).toInt = 13 by decide)
      have z14_ := tz_nlt_r c4064_ (show (14 : Int32).toInt = 14 by decide)
      have z15_ := tz_le_l c4065_ (show (21 : Int32).toInt = 21 by decide)
      have z16_ := tz_eq_r c4998_ (show (1 : Int32).toInt = 1 by decide)
      omega
    · skip
      exfalso
      have z0_ := tz_neq_r c4050_ (show (0 : Int32).toInt = 0 by decide)
      have z1_ := tz_neq_r c4051_ (show (1 : Int32).toInt = 1 by decide)
      have z2_ := tz_neq_r c4052_ (show (2 : Int32).toInt = 2 by decide)
      have z3_ := tz_neq_r c4053_ (show (3 : Int32).toInt = 3 by decide)
      have z4_ := tz_neq_r c4054_ (show (4 : Int32).toInt = 4 by decide)
      have z5_ := tz_neq_r c4055_ (show (5 : Int32).toInt = 5 by decide)
      have z6_ := tz_neq_r c4056_ (show (6 : Int32).toInt = 6 by decide)
      have z7_ := tz_neq_r c4057_ (show (7 : Int32).toInt = 7 by decide)
      have z8_ := tz_neq_r c4058_ (show (8 : Int32).toInt = 8 by decide)
      have z9_ := tz_neq_r c4059_ (show (9 : Int32).toInt = 9 by decide)
      have z10_ := tz_neq_r c4060_ (show (10 : Int32).toInt = 10 by decide)
      have z11_ := tz_neq_r c4061_ (show (11 : Int32).toInt = 11 by decide)
      have z12_ := tz_neq_r c4062_ (show (12 : Int32).toInt = 12 by decide)
      have z13_ := tz_neq_r c4063_ (show (13 : Int32).toInt = 13 by decide)
      have z14_ := tz_nlt_r c4064_ (show (14 : Int32).toInt = 14 by decide)
      have z15_ := tz_le_l c4065_ (show (21 : Int32).toInt = 21 by decide)
      have z16_ := tz_eq_r c4999_ (show (2 : Int32).toInt = 2 by decide)
      omega
    · skip
      exfalso
      have z0_ := tz_neq_r c4050_ (show (0 : Int32).toInt = 0 by decide)
      have z1_ := tz_neq_r c4051_ (show (1 : Int32).toInt = 1 by decide)
      have z2_ := tz_neq_r c4052_ (show (2 : Int32).toInt = 2 by decide)
      have z3_ := tz_neq_r c4053_ (show (3 : Int32).toInt = 3 by decide)
      have z4_ := tz_neq_r c4054_ (show (4 : Int32).toInt = 4 by decide)
      have z5_ := tz_neq_r c4055_ (show (5 : Int32).toInt = 5 by decide)
      have z6_ := tz_neq_r c4056_ (show (6 : Int32).toInt = 6 by decide)
      have z7_ := tz_neq_r c4057_ (show (7 : Int32).toInt = 7 by decide)
      have z8_ := tz_neq_r c4058_ (show (8 : Int32).toInt = 8 by decide)
      have z9_ := tz_neq_r c4059_ (show (9 : Int32).toInt = 9 by decide)
      have z10_ := tz_neq_r c4060_ (show (10 : Int32).toInt = 10 by decide)
      have z11_ := tz_neq_r c4061_ (show (11 : Int32).toInt = 11 by decide)
      have z12_ := tz_neq_r c4062_ (show (12 : Int32).toInt = 12 by decide)
      have z13_ := tz_neq_r c4063_ (show (13 : Int32).toInt = 13 by decide)
      have z14_ := tz_nlt_r c4064_ (show (14 : Int32).toInt = 14 by decide)
      have z15_ := tz_le_l c4065_ (show (21 : Int32).toInt = 21 by decide)
      have z16_ := tz_eq_r c5000_ (show (3 : Int32).toInt = 3 by decide)
      omega
    · skip
      exfalso
      have z0_ := tz_neq_r c4050_ (show (0 : Int32).toInt = 0 by decide)
      have z1_ := tz_neq_r c4051_ (show (1 : Int32).toInt = 1 by decide)
      have z2_ := tz_neq_r c4052_ (show (2 : Int32).toInt = 2 by decide)
      have z3_ := tz_neq_r c4053_ (show (3 : Int32).toInt = 3 by decide)
      have z4_ := tz_neq_r c4054_ (show (4 : Int32).toInt = 4 by decide)
      have z5_ := tz_neq_r c4055_ (show (5 : Int32).toInt = 5 by decide)
      have z6_ := tz_neq_r c4056_ (show (6 : Int32).toInt = 6 by decide)
      have z7_ := tz_neq_r c4057_ (show (7 : Int32).toInt = 7 by decide)
      have z8_ := tz_neq_r c4058_ (show (8 : Int32).toInt = 8 by decide)
      have z9_ := tz_neq_r c4059_ (show (9 : Int32).toInt = 9 by decide)
      have z10_ := tz_neq_r c4060_ (show (10 : Int32).toInt = 10 by decide)
      have z11_ := tz_neq_r c4061_ (show (11 : Int32).toInt = 11 by decide)
      have z12_ := tz_neq_r c4062_ (show (12 : Int32).toInt = 12 by decide)
      have z13_ := tz_neq_r c4063_ (show (13 : Int32).toInt = 13 by decide)
      have z14_ := tz_nlt_r c4064_ (show (14 : Int32).toInt = 14 by decide)
      have z15_ := tz_le_l c4065_ (show (21 : Int32).toInt = 21 by decide)
      have z16_ := tz_eq_r c5001_ (show (4 : Int32).toInt = 4 by decide)
      omega
    · skip
      exfalso
      have z0_ := tz_neq_r c4050_ (show (0 : Int32).toInt = 0 by decide)
      have z1_ := tz_neq_r c4051_ (show (1 : Int32).toInt = 1 by decide)
      have z2_ := tz_neq_r c4052_ (show (2 : Int32).toInt = 2 by decide)
      have z3_ := tz_neq_r c4053_ (show (3 : Int32).toInt = 3 by decide)
      have z4_ := tz_neq_r c4054_ (show (4 : Int32).toInt = 4 by decide)
      have z5_ := tz_neq_r c4055_ (show (5 : Int32).toInt = 5 by decide)
      have z6_ := tz_neq_r c4056_ (show (6 : Int32).toInt = 6 by decide)
      have z7_ := tz_neq_r c4057_ (show (7 : Int32).toInt = 7 by decide)
      have z8_ := tz_neq_r c4058_ (show (8 : Int32).toInt = 8 by decide)
      have z9_ := tz_neq_r c4059_ (show (9 : Int32).toInt = 9 by decide)
      have z10_ := tz_neq_r c4060_ (show (10 : Int32).toInt = 10 by decide)
      have z11_ := tz_neq_r c4061_ (show (11 : Int32).toInt = 11 by decide)
      have z12_ := tz_neq_r c4062_ (show (12 : Int32).toInt = 12 by decide)
      have z13_ := tz_neq_r c4063_ (show (13 : Int32).toInt = 13 by decide)
      have z14_ := tz_nlt_r c4064_ (show (14 : Int32).toInt = 14 by decide)
      have z15_ := tz_le_l c4065_ (show (21 : Int32).toInt = 21 by decide)
      have z16_ := tz_eq_r c5002_ (show (5 : Int32).toInt = 5 by decide)
      omega
    · skip
      exfalso
      have z0_ := tz_neq_r c4050_ (show (0 : Int32).toInt = 0 by decide)
      have z1_ := tz_neq_r c4051_ (show (1 : Int32).toInt = 1 by decide)
      have z2_ := tz_neq_r c4052_ (show (2 : Int32).toInt = 2 by decide)
      have z3_ := tz_neq_r c4053_ (show (3 : Int32).toInt = 3 by decide)
      have z4_ := tz_neq_r c4054_ (show (4 : Int32).toInt = 4 by decide)
      have z5_ := tz_neq_r c4055_ (show (5 : Int32).toInt = 5 by decide)
      have z6_ := tz_neq_r c4056_ (show (6 : Int32).toInt = 6 by decide)
      have z7_ := tz_neq_r c4057_ (show (7 : Int32).toInt = 7 by decide)
      have z8_ := tz_neq_r c4058_ (show (8 : Int32).toInt = 8 by decide)
      have z9_ := tz_neq_r c4059_ (show (9 : Int32).toInt = 9 by decide)
      have z10_ := tz_neq_r c4060_ (show (10 : Int32).toInt = 10 by decide)
      have z11_ := tz_neq_r c4061_ (show (11 : Int32).toInt = 11 by decide)
      have z12_ := tz_neq_r c4062_ (show (12 : Int32).toInt = 12 by decide)
      have z13_ := tz_neq_r c4063_ (show (13 : Int32).toInt = 13 by decide)
      have z14_ := tz_nlt_r c4064_ (show (14 : Int32).toInt = 14 by decide)
      have z15_ := tz_le_l c4065_ (show (21 : Int32).toInt = 21 by decide)
      have z16_ := tz_eq_r c5003_ (show (6 : Int32).toInt = 6 by decide)
      omega
    · skip
      exfalso
      have z0_ := tz_neq_r c4050_ (show (0 : Int32).toInt = 0 by decide)
      have z1_ := tz_neq_r c4051_ (show (1 : Int32).toInt = 1 by decide)
      have z2_ := tz_neq_r c4052_ (show (2 : Int32).toInt = 2 by decide)
      have z3_ := tz_neq_r c4053_ (show (3 : Int32).toInt = 3 by decide)
      have z4_ := tz_neq_r c4054_ (show (4 : Int32).toInt = 4 by decide)
      have z5_ := tz_neq_r c4055_ (show (5 : Int32).toInt = 5 by decide)
      have z6_ := tz_neq_r c4056_ (show (6 : Int32).toInt = 6 by decide)
      have z7_ := tz_neq_r c4057_ (show (7 : Int32).toInt = 7 by decide)
      have z8_ := tz_neq_r c4058_ (show (8 : Int32).toInt = 8 by decide)
      have z9_ := tz_neq_r c4059_ (show (9 : Int32).toInt = 9 by decide)
      have z10_ := tz_neq_r c4060_ (show (10 : Int32).toInt = 10 by decide)
      have z11_ := tz_neq_r c4061_ (show (11 : Int32).toInt = 11 by decide)
      have z12_ := tz_neq_r c4062_ (show (12 : Int32).toInt = 12 by decide)
      have z13_ := tz_neq_r c4063_ (show (13 : Int32).toInt = 13 by decide)
      have z14_ := tz_nlt_r c4064_ (show (14 : Int32).toInt = 14 by decide)
      have z15_ := tz_le_l c4065_ (show (21 : Int32).toInt = 21 by decide)
      have z16_ := tz_eq_r c5004_ (show (7 : Int32).toInt = 7 by decide)
      omega
    · skip
      exfalso
      have z0_ := tz_neq_r c4050_ (show (0 : Int32).toInt = 0 by decide)
      have z1_ := tz_neq_r c4051_ (show (1 : Int32).toInt = 1 by decide)
      have z2_ := tz_neq_r c4052_ (show (2 : Int32).toInt = 2 by decide)
      have z3_ := tz_neq_r c4053_ (show (3 : Int32).toInt = 3 by decide)
      have z4_ := tz_neq_r c4054_ (show (4 : Int32).toInt = 4 by decide)
      have z5_ := tz_neq_r c4055_ (show (5 : Int32).toInt = 5 by decide)
      have z6_ := tz_neq_r c4056_ (show (6 : Int32).toInt = 6 by decide)
      have z7_ := tz_neq_r c4057_ (show (7 : Int32).toInt = 7 by decide)
      have z8_ := tz_neq_r c4058_ (show (8 : Int32).toInt = 8 by decide)
      have z9_ := tz_neq_r c4059_ (show (9 : Int32).toInt = 9 by decide)
      have z10_ := tz_neq_r c4060_ (show (10 : Int32).toInt = 10 by decide)
      have z11_ := tz_neq_r c4061_ (show (11 : Int32).toInt = 11 by decide)
      have z12_ := tz_neq_r c4062_ (show (12 : Int32).toInt = 12 by decide)
      have z13_ := tz_neq_r c4063_ (show (13 : Int32).toInt = 13 by decide)
      have z14_ := tz_nlt_r c4064_ (show (14 : Int32).toInt = 14 by decide)
      have z15_ := tz_le_l c4065_ (show (21 : Int32).toInt = 21 by decide)
      have z16_ := tz_eq_r c5005_ (show (8 : Int32).toInt = 8 by decide)
      omega
    · skip
      exfalso
      have z0_ := tz_neq_r c4050_ (show (0 : Int32).toInt = 0 by decide)
      have z1_ := tz_neq_r c4051_ (show (1 : Int32).toInt = 1 by decide)
      have z2_ := tz_neq_r c4052_ (show (2 : Int32).toInt = 2 by decide)
      have z3_ := tz_neq_r c4053_ (show (3 : Int32).toInt = 3 by decide)
      have z4_ := tz_neq_r c4054_ (show (4 : Int32).toInt = 4 by decide)
      have z5_ := tz_neq_r c4055_ (show (5 : Int32).toInt = 5 by decide)
      have z6_ := tz_neq_r c4056_ (show (6 : Int32).toInt = 6 by decide)
      have z7_ := tz_neq_r c4057_ (show (7 : Int32).toInt = 7 by decide)
      have z8_ := tz_neq_r c4058_ (show (8 : Int32).toInt = 8 by decide)
      have z9_ := tz_neq_r c4059_ (show (9 : Int32).toInt = 9 by decide)
      have z10_ := tz_neq_r c4060_ (show (10 : Int32).toInt = 10 by decide)
      have z11_ := tz_neq_r c4061_ (show (11 : Int32).toInt = 11 by decide)
      have z12_ := tz_neq_r c4062_ (show (12 : Int32).toInt = 12 by decide)
      have z13_ := tz_neq_r c4063_ (show (13 : Int32).toInt = 13 by decide)
      have z14_ := tz_nlt_r c4064_ (show (14 : Int32).toInt = 14 by decide)
      have z15_ := tz_le_l c4065_ (show (21 : Int32).toInt = 21 by decide)
      have z16_ := tz_eq_r c5006_ (show (9 : Int32).toInt = 9 by decide)
      omega
    · skip
      exfalso
      have z0_ := tz_neq_r c4050_ (show (0 : Int32).toInt = 0 by decide)
      have z1_ := tz_neq_r c4051_ (show (1 : Int32).toInt = 1 by decide)
      have z2_ := tz_neq_r c4052_ (show (2 : Int32).toInt = 2 by decide)
      have z3_ := tz_neq_r c4053_ (show (3 : Int32).toInt = 3 by decide)
      have z4_ := tz_neq_r c4054_ (show (4 : Int32).toInt = 4 by decide)
      have z5_ := tz_neq_r c4055_ (show (5 : Int32).toInt = 5 by decide)
      have z6_ := tz_neq_r c4056_ (show (6 : Int32).toInt = 6 by decide)
      have z7_ := tz_neq_r c4057_ (show (7 : Int32).toInt = 7 by decide)
      have z8_ := tz_neq_r c4058_ (show (8 : Int32).toInt = 8 by decide)
      have z9_ := tz_neq_r c4059_ (show (9 : Int32).toInt = 9 by decide)
      have z10_ := tz_neq_r c4060_ (show (10 : Int32).toInt = 10 by decide)
      have z11_ := tz_neq_r c4061_ (show (11 : Int32).toInt = 11 by decide)
      have z12_ := tz_neq_r c4062_ (show (12 : Int32).toInt = 12 by decide)
      have z13_ := tz_neq_r c4063_ (show (13 : Int32).toInt = 13 by decide)
      have z14_ := tz_nlt_r c4064_ (show (14 : Int32).toInt = 14 by decide)
      have z15_ := tz_le_l c4065_ (show (21 : Int32).toInt = 21 by decide)
      have z16_ := tz_eq_r c5007_ (show (10 : Int32).toInt = 10 by decide)
      omega
    · skip
      exfalso
      have z0_ := tz_neq_r c4050_ (show (0 : Int32).toInt = 0 by decide)
      have z1_ := tz_neq_r c4051_ (show (1 : Int32).toInt = 1 by decide)
      have z2_ := tz_neq_r c4052_ (show (2 : Int32).toInt = 2 by decide)
      have z3_ := tz_neq_r c4053_ (show (3 : Int32).toInt = 3 by decide)
      have z4_ := tz_neq_r c4054_ (show (4 : Int32).toInt = 4 by decide)
      have z5_ := tz_neq_r c4055_ (show (5 : Int32).toInt = 5 by decide)
      have z6_ := tz_neq_r c4056_ (show (6 : Int32).toInt = 6 by decide)
      have z7_ := tz_neq_r c4057_ (show (7 : Int32).toInt = 7 by decide)
      have z8_ := tz_neq_r c4058_ (show (8 : Int32).toInt = 8 by decide)
      have z9_ := tz_neq_r c4059_ (show (9 : Int32).toInt = 9 by decide)
      have z10_ := tz_neq_r c4060_ (show (10 : Int32).toInt = 10 by decide)
      have z11_ := tz_neq_r c4061_ (show (11 : Int32).toInt = 11 by decide)
      have z12_ := tz_neq_r c4062_ (show (12 : Int32).toInt = 12 by decide)
      have z13_ := tz_neq_r c4063_ (show (13 : Int32).toInt = 13 by decide)
      have z14_ := tz_nlt_r c4064_ (show (14 : Int32).toInt = 14 by decide)
      have z15_ := tz_le_l c4065_ (show (21 : Int32).toInt = 21 by decide)
      have z16_ := tz_eq_r c5008_ (show (11 : Int32).toInt = 11 by decide)
      omega
    · skip
      exfalso
      have z0_ := tz_neq_r c4050_ (show (0 : Int32).toInt = 0 by decide)
      have z1_ := tz_neq_r c4051_ (show (1 : Int32).toInt = 1 by decide)
      have z2_ := tz_neq_r c4052_ (show (2 : Int32).toInt = 2 by decide)
      have z3_ := tz_neq_r c4053_ (show (3 : Int32).toInt = 3 by decide)
      have z4_ := tz_neq_r c4054_ (show (4 : Int32).toInt = 4 by decide)
      have z5_ := tz_neq_r c4055_ (show (5 : Int32).toInt = 5 by decide)
      have z6_ := tz_neq_r c4056_ (show (6 : Int32).toInt = 6 by decide)
      have z7_ := tz_neq_r c4057_ (show (7 : Int32).toInt = 7 by decide)
      have z8_ := tz_neq_r c4058_ (show (8 : Int32).toInt = 8 by decide)
      have z9_ := tz_neq_r c4059_ (show (9 : Int32).toInt = 9 by decide)
      have z10_ := tz_neq_r c4060_ (show (10 : Int32).toInt = 10 by decide)
      have z11_ := tz_neq_r c4061_ (show (11 : Int32).toInt = 11 by decide)
      have z12_ := tz_neq_r c4062_ (show (12 : Int32).toInt = 12 by decide)
      have z13_ := tz_neq_r c4063_ (show (13 : Int32).toInt = 13 by decide)
      have z14_ := tz_nlt_r c4064_ (show (14 : Int32).toInt = 14 by decide)
      have z15_ := tz_le_l c4065_ (show (21 : Int32).toInt = 21 by decide)
      have z16_ := tz_eq_r c5009_ (show (12 : Int32).toInt = 12 by decide)
      omega
    · skip
      exfalso
      have z0_ := tz_neq_r c4050_ (show (0 : Int32).toInt = 0 by decide)
      have z1_ := tz_neq_r c4051_ (show (1 : Int32).toInt = 1 by decide)
      have z2_ := tz_neq_r c4052_ (show (2 : Int32).toInt = 2 by decide)
      have z3_ := tz_neq_r c4053_ (show (3 : Int32).toInt = 3 by decide)
      have z4_ := tz_neq_r c4054_ (show (4 : Int32).toInt = 4 by decide)
      have z5_ := tz_neq_r c4055_ (show (5 : Int32).toInt = 5 by decide)
      have z6_ := tz_neq_r c4056_ (show (6 : Int32).toInt = 6 by decide)
      have z7_ := tz_neq_r c4057_ (show (7 : Int32).toInt = 7 by decide)
      have z8_ := tz_neq_r c4058_ (show (8 : Int32).toInt = 8 by decide)
      have z9_ := tz_neq_r c4059_ (show (9 : Int32).toInt = 9 by decide)
      have z10_ := tz_neq_r c4060_ (show (10 : Int32).toInt = 10 by decide)
      have z11_ := tz_neq_r c4061_ (show (11 : Int32).toInt = 11 by decide)
      have z12_ := tz_neq_r c4062_ (show (12 : Int32).toInt = 12 by decide)
      have z13_ := tz_neq_r c4063_ (show (13 : Int32).toInt = 13 by decide)
      have z14_ := tz_nlt_r c4064_ (show (14 : Int32).toInt = 14 by decide)
      have z15_ := tz_le_l c4065_ (show (21 : Int32).toInt = 21 by decide)
      have z16_ := tz_eq_r c5010_ (show (13 : Int32).toInt = 13 by decide)
      omega
    · skip
      exfalso
      have z0_ := tz_neq_r c4050_ (show (0 : Int32).toInt = 0 by decide)
      have z1_ := tz_neq_r c4051_ (show (1 : Int32).toInt = 1 by decide)
      have z2_ := tz_neq_r c4052_ (show (2 : Int32).toInt = 2 by decide)
      have z3_ := tz_neq_r c4053_ (show (3 : Int32).toInt = 3 by decide)
      have z4_ := tz_neq_r c4054_ (show (4 : Int32).toInt = 4 by decide)
      have z5_ := tz_neq_r c4055_ (show (5 : Int32).toInt = 5 by decide)
      have z6_ := tz_neq_r c4056_ (show (6 : Int32).toInt = 6 by decide)
      have z7_ := tz_neq_r c4057_ (show (7 : Int32).toInt = 7 by decide)
      have z8_ := tz_neq_r c4058_ (show (8 : Int32).toInt = 8 by decide)
      have z9_ := tz_neq_r c4059_ (show (9 : Int32).toInt = 9 by decide)
      have z10_ := tz_neq_r c4060_ (show (10 : Int32).toInt = 10 by decide)
      have z11_ := tz_neq_r c4061_ (show (11 : Int32).toInt = 11 by decide)
      have z12_ := tz_neq_r c4062_ (show (12 : Int32).toInt = 12 by decide)
      have z13_ := tz_neq_r c4063_ (show (13 : Int32).toInt = 13 by decide)
      have z14_ := tz_nlt_r c4064_ (show (14 : Int32).toInt = 14 by decide)
      have z15_ := tz_le_l c4065_ (show (21 : Int32).toInt = 21 by decide)
      have z16_ := tz_lt_r c5025_ (show (14 : Int32).toInt = 14 by decide)
      omega
    · skip
      refine lv_icmp_eq (tgt := 983) hx hb dL_law_965 (by decide) (fun _ => ?_) (fun c9_ => absurd (by decide) c9_)
      refine lv_iinc (v := 6) (lv' := [(3, .int 6), (2, .ref (b 0)), (1, .ref (a 0)), (0, .ref sc)]) hx hb dL_law_983 hl (k := 0) rfl (by decide) (by decide) rfl (fun ls hl => ?_)
      refine lv_goto (tgt := 18) hx hb dL_law_986 (by decide) ?_
      refine lv_iload_n hx hb dL_law_18 rfl (lv_at hl 0 rfl) ?_
      refine lv_aload_n hx hb dL_law_19 rfl (lv_at hl 3 rfl) ?_
      refine va_slen hx hb hX hbl hbA hS dL_law_20 ?_
      refine tk_i 6 (by decide) ?_
      refine lv_bipush (v := 6) hx hb dL_law_21 (by decide) ?_
      refine lv_isub hx hb dL_law_23 ?_
      refine tk_i 0 (by decide) ?_
      refine lv_icmp_gt (tgt := 989) hx hb dL_law_24 (by decide) (fun _ => ?_) (fun c9_ => absurd (by decide) c9_)
      refine lv_iconst (v := 1) hx hb dL_law_989 (by decide) ?_
      refine va_forget (fun q hq => by have h := hS.2.2 q hq; rw [hAe] at h; exact h) ?_
      refine W.widen (k := 600000) (n := 7302249) (Nat.le_of_ble_eq_true rfl) (Nat.le_of_ble_eq_true rfl) ?_
      exact lw_ret hx hb hr hlocks dL_law_990
    · skip
      exfalso
      have z0_ := tz_neq_r c4050_ (show (0 : Int32).toInt = 0 by decide)
      have z1_ := tz_neq_r c4051_ (show (1 : Int32).toInt = 1 by decide)
      have z2_ := tz_neq_r c4052_ (show (2 : Int32).toInt = 2 by decide)
      have z3_ := tz_neq_r c4053_ (show (3 : Int32).toInt = 3 by decide)
      have z4_ := tz_neq_r c4054_ (show (4 : Int32).toInt = 4 by decide)
      have z5_ := tz_neq_r c4055_ (show (5 : Int32).toInt = 5 by decide)
      have z6_ := tz_neq_r c4056_ (show (6 : Int32).toInt = 6 by decide)
      have z7_ := tz_neq_r c4057_ (show (7 : Int32).toInt = 7 by decide)
      have z8_ := tz_neq_r c4058_ (show (8 : Int32).toInt = 8 by decide)
      have z9_ := tz_neq_r c4059_ (show (9 : Int32).toInt = 9 by decide)
      have z10_ := tz_neq_r c4060_ (show (10 : Int32).toInt = 10 by decide)
      have z11_ := tz_neq_r c4061_ (show (11 : Int32).toInt = 11 by decide)
      have z12_ := tz_neq_r c4062_ (show (12 : Int32).toInt = 12 by decide)
      have z13_ := tz_neq_r c4063_ (show (13 : Int32).toInt = 13 by decide)
      have z14_ := tz_nlt_r c4064_ (show (14 : Int32).toInt = 14 by decide)
      have z15_ := tz_le_l c4065_ (show (21 : Int32).toInt = 21 by decide)
      have z16_ := tz_nlt_l c5057_ (show (20 : Int32).toInt = 20 by decide)
      omega
  · skip
    refine lv_aload_n hx hb dL_law_956 rfl (lv_at hl 1 rfl) ?_
    refine lv_aload_n hx hb dL_law_957 rfl (lv_at hl 3 rfl) ?_
    refine lv_iload_n hx hb dL_law_958 rfl (lv_at hl 0 rfl) ?_
    refine lv_iconst (v := 1) hx hb dL_law_959 (by decide) ?_
    refine lv_iadd hx hb dL_law_960 ?_
    refine tk_i 1 (by decide) ?_
    refine va_sld hx hb hX hbl hbA hS (show ¬ ((1 : Int32) < 0 ∨ 6 ≤ Int32.toNatClampNeg 1) by decide) dL_law_961 ?_
    refine tk_i x1 ex1 ?_
    have hPc : va_P (dC, dI) vwCl (mw b cy) _ := hP.sub [56, 57, 58, 59, 60, 61, 62, 63] rfl
    have hDc := hD.sub (ws' := mw b cy) [56, 57, 58, 59, 60, 61, 62, 63] (by decide) rfl
    have hFc := va_free (wc := mw b cy) hD hS hA [56, 57, 58, 59, 60, 61, 62, 63] rfl
    refine va_calli (va_runV (As := [.int x1]) (rest := [.int 0]) ⟨hx, hb, hml, hown, hts⟩ (c_X12_count l dC dI cy b _ x1) (cwV 1 hts g_L_law_X12_count_130 rfl rfl rfl (by decide +kernel) ⟨Nat.le_of_ble_eq_true rfl, Nat.le_of_ble_eq_true rfl⟩) (pv_ps hC hPc hDc (ci := 12) (q0 := 0) rfl rfl) rfl rfl hl.1 rfl (lv_room (Nat.le_of_ble_eq_true rfl)) dL_law_962 ⟨Nat.le_of_ble_eq_true rfl, Nat.le_of_ble_eq_true rfl⟩) hS (fun q _ h => hFc q h) hFc (fun r_ u t_ H1 locs ht hvm hw hB hz1 hk1 hS => ?_)
    obtain ⟨hP, hD⟩ := va_join (wr := []) (w1 := []) hP hD [56, 57, 58, 59, 60, 61, 62, 63] [] rfl rfl (by decide) (by decide) hk1 hFc va_P0 va_D0
    generalize H1 = H at hP hS ⊢
    have hP : va_P (dC, dI) vwCl ([]) H := hP
    have hD : va_D A ([]) := hD
    rcases hw with ⟨c5058_, rfl⟩ | ⟨c5059_, rfl⟩ | ⟨c5060_, rfl⟩ | ⟨c5061_, rfl⟩ | ⟨c5062_, rfl⟩ | ⟨c5063_, rfl⟩ | ⟨c5064_, rfl⟩ | ⟨c5065_, rfl⟩ | ⟨c5066_, rfl⟩ | ⟨c5067_, rfl⟩ | ⟨c5068_, rfl⟩ | ⟨c5069_, rfl⟩ | ⟨c5070_, rfl⟩ | ⟨c5071_, rfl⟩ | ⟨c5072_, c5073_, c5074_, c5075_, c5076_, c5077_, c5078_, c5079_, c5080_, c5081_, c5082_, c5083_, c5084_, c5085_, c5086_, rfl⟩ | ⟨c5087_, c5088_, c5089_, c5090_, c5091_, c5092_, c5093_, c5094_, c5095_, c5096_, c5097_, c5098_, c5099_, c5100_, c5101_, c5102_, rfl⟩ | ⟨c5103_, c5104_, c5105_, c5106_, c5107_, c5108_, c5109_, c5110_, c5111_, c5112_, c5113_, c5114_, c5115_, c5116_, c5117_, c5118_, rfl⟩
    · skip
      exfalso
      have z0_ := tz_neq_r c4066_ (show (0 : Int32).toInt = 0 by decide)
      have z1_ := tz_neq_r c4067_ (show (1 : Int32).toInt = 1 by decide)
      have z2_ := tz_neq_r c4068_ (show (2 : Int32).toInt = 2 by decide)
      have z3_ := tz_neq_r c4069_ (show (3 : Int32).toInt = 3 by decide)
      have z4_ := tz_neq_r c4070_ (show (4 : Int32).toInt = 4 by decide)
      have z5_ := tz_neq_r c4071_ (show (5 : Int32).toInt = 5 by decide)
      have z6_ := tz_neq_r c4072_ (show (6 : Int32).toInt = 6 by decide)
      have z7_ := tz_neq_r c4073_ (show (7 : Int32).toInt = 7 by decide)
      have z8_ := tz_neq_r c4074_ (show (8 : Int32).toInt = 8 by decide)
      have z9_ := tz_neq_r c4075_ (show (9 : Int32).toInt = 9 by decide)
      have z10_ := tz_neq_r c4076_ (show (10 : Int32).toInt = 10 by decide)
      have z11_ := tz_neq_r c4077_ (show (11 : Int32).toInt = 11 by decide)
      have z12_ := tz_neq_r c4078_ (show (12 : Int32).toInt = 12 by decide)
      have z13_ := tz_neq_r c4079_ (show (13 : Int32).toInt = 13 by decide)
      have z14_ := tz_nlt_r c4080_ (show (14 : Int32).toInt = 14 by decide)
      have z15_ := tz_nle_l c4081_ (show (21 : Int32).toInt = 21 by decide)
      have z16_ := tz_eq_r c5058_ (show (0 : Int32).toInt = 0 by decide)
      omega
    · skip
      exfalso
      have z0_ := tz_neq_r c4066_ (show (0 : Int32).toInt = 0 by decide)
      have z1_ := tz_neq_r c4067_ (show (1 : Int32).toInt = 1 by decide)
      have z2_ := tz_neq_r c4068_ (show (2 : Int32).toInt = 2 by decide)
      have z3_ := tz_neq_r c4069_ (show (3 : Int32).toInt = 3 by decide)
      have z4_ := tz_neq_r c4070_ (show (4 : Int32).toInt = 4 by decide)
      have z5_ := tz_neq_r c4071_ (show (5 : Int32).toInt = 5 by decide)
      have z6_ := tz_neq_r c4072_ (show (6 : Int32).toInt = 6 by decide)
      have z7_ := tz_neq_r c4073_ (show (7 : Int32).toInt = 7 by decide)
      have z8_ := tz_neq_r c4074_ (show (8 : Int32).toInt = 8 by decide)
      have z9_ := tz_neq_r c4075_ (show (9 : Int32).toInt = 9 by decide)
      have z10_ := tz_neq_r c4076_ (show (10 : Int32).toInt = 10 by decide)
      have z11_ := tz_neq_r c4077_ (show (11 : Int32).toInt = 11 by decide)
      have z12_ := tz_neq_r c4078_ (show (12 : Int32).toInt = 12 by decide)
      have z13_ := tz_neq_r c4079_ (show (13 : Int32).toInt = 13 by decide)
      have z14_ := tz_nlt_r c4080_ (show (14 : Int32).toInt = 14 by decide)
      have z15_ := tz_nle_l c4081_ (show (21 : Int32).toInt = 21 by decide)
      have z16_ := tz_eq_r c5059_ (show (1 : Int32).toInt = 1 by decide)
      omega
    · skip
      exfalso
      have z0_ := tz_neq_r c4066_ (show (0 : Int32).toInt = 0 by decide)
      have z1_ := tz_neq_r c4067_ (show (1 : Int32).toInt = 1 by decide)
      have z2_ := tz_neq_r c4068_ (show (2 : Int32).toInt = 2 by decide)
      have z3_ := tz_neq_r c4069_ (show (3 : Int32).toInt = 3 by decide)
      have z4_ := tz_neq_r c4070_ (show (4 : Int32).toInt = 4 by decide)
      have z5_ := tz_neq_r c4071_ (show (5 : Int32).toInt = 5 by decide)
      have z6_ := tz_neq_r c4072_ (show (6 : Int32).toInt = 6 by decide)
      have z7_ := tz_neq_r c4073_ (show (7 : Int32).toInt = 7 by decide)
      have z8_ := tz_neq_r c4074_ (show (8 : Int32).toInt = 8 by decide)
      have z9_ := tz_neq_r c4075_ (show (9 : Int32).toInt = 9 by decide)
      have z10_ := tz_neq_r c4076_ (show (10 : Int32).toInt = 10 by decide)
      have z11_ := tz_neq_r c4077_ (show (11 : Int32).toInt = 11 by decide)
      have z12_ := tz_neq_r c4078_ (show (12 : Int32).toInt = 12 by decide)
      have z13_ := tz_neq_r c4079_ (show (13 : Int32).toInt = 13 by decide)
      have z14_ := tz_nlt_r c4080_ (show (14 : Int32).toInt = 14 by decide)
      have z15_ := tz_nle_l c4081_ (show (21 : Int32).toInt = 21 by decide)
      have z16_ := tz_eq_r c5060_ (show (2 : Int32).toInt = 2 by decide)
      omega
    · skip
      exfalso
      have z0_ := tz_neq_r c4066_ (show (0 : Int32).toInt = 0 by decide)
      have z1_ := tz_neq_r c4067_ (show (1 : Int32).toInt = 1 by decide)
      have z2_ := tz_neq_r c4068_ (show (2 : Int32).toInt = 2 by decide)
      have z3_ := tz_neq_r c4069_ (show (3 : Int32).toInt = 3 by decide)
      have z4_ := tz_neq_r c4070_ (show (4 : Int32).toInt = 4 by decide)
      have z5_ := tz_neq_r c4071_ (show (5 : Int32).toInt = 5 by decide)
      have z6_ := tz_neq_r c4072_ (show (6 : Int32).toInt = 6 by decide)
      have z7_ := tz_neq_r c4073_ (show (7 : Int32).toInt = 7 by decide)
      have z8_ := tz_neq_r c4074_ (show (8 : Int32).toInt = 8 by decide)
      have z9_ := tz_neq_r c4075_ (show (9 : Int32).toInt = 9 by decide)
      have z10_ := tz_neq_r c4076_ (show (10 : Int32).toInt = 10 by decide)
      have z11_ := tz_neq_r c4077_ (show (11 : Int32).toInt = 11 by decide)
      have z12_ := tz_neq_r c4078_ (show (12 : Int32).toInt = 12 by decide)
      have z13_ := tz_neq_r c4079_ (show (13 : Int32).toInt = 13 by decide)
      have z14_ := tz_nlt_r c4080_ (show (14 : Int32).toInt = 14 by decide)
      have z15_ := tz_nle_l c4081_ (show (21 : Int32).toInt = 21 by decide)
      have z16_ := tz_eq_r c5061_ (show (3 : Int32).toInt = 3 by decide)
      omega
    · skip
      exfalso
      have z0_ := tz_neq_r c4066_ (show (0 : Int32).toInt = 0 by decide)
      have z1_ := tz_neq_r c4067_ (show (1 : Int32).toInt = 1 by decide)
      have z2_ := tz_neq_r c4068_ (show (2 : Int32).toInt = 2 by decide)
      have z3_ := tz_neq_r c4069_ (show (3 : Int32).toInt = 3 by decide)
      have z4_ := tz_neq_r c4070_ (show (4 : Int32).toInt = 4 by decide)
      have z5_ := tz_neq_r c4071_ (show (5 : Int32).toInt = 5 by decide)
      have z6_ := tz_neq_r c4072_ (show (6 : Int32).toInt = 6 by decide)
      have z7_ := tz_neq_r c4073_ (show (7 : Int32).toInt = 7 by decide)
      have z8_ := tz_neq_r c4074_ (show (8 : Int32).toInt = 8 by decide)
      have z9_ := tz_neq_r c4075_ (show (9 : Int32).toInt = 9 by decide)
      have z10_ := tz_neq_r c4076_ (show (10 : Int32).toInt = 10 by decide)
      have z11_ := tz_neq_r c4077_ (show (11 : Int32).toInt = 11 by decide)
      have z12_ := tz_neq_r c4078_ (show (12 : Int32).toInt = 12 by decide)
      have z13_ := tz_neq_r c4079_ (show (13 : Int32).toInt = 13 by decide)
      have z14_ := tz_nlt_r c4080_ (show (14 : Int32).toInt = 14 by decide)
      have z15_ := tz_nle_l c4081_ (show (21 : Int32).toInt = 21 by decide)
      have z16_ := tz_eq_r c5062_ (show (4 : Int32).toInt = 4 by decide)
      omega
    · skip
      exfalso
      have z0_ := tz_neq_r c4066_ (show (0 : Int32).toInt = 0 by decide)
      have z1_ := tz_neq_r c4067_ (show (1 : Int32).toInt = 1 by decide)
      have z2_ := tz_neq_r c4068_ (show (2 : Int32).toInt = 2 by decide)
      have z3_ := tz_neq_r c4069_ (show (3 : Int32).toInt = 3 by decide)
      have z4_ := tz_neq_r c4070_ (show (4 : Int32).toInt = 4 by decide)
      have z5_ := tz_neq_r c4071_ (show (5 : Int32).toInt = 5 by decide)
      have z6_ := tz_neq_r c4072_ (show (6 : Int32).toInt = 6 by decide)
      have z7_ := tz_neq_r c4073_ (show (7 : Int32).toInt = 7 by decide)
      have z8_ := tz_neq_r c4074_ (show (8 : Int32).toInt = 8 by decide)
      have z9_ := tz_neq_r c4075_ (show (9 : Int32).toInt = 9 by decide)
      have z10_ := tz_neq_r c4076_ (show (10 : Int32).toInt = 10 by decide)
      have z11_ := tz_neq_r c4077_ (show (11 : Int32).toInt = 11 by decide)
      have z12_ := tz_neq_r c4078_ (show (12 : Int32).toInt = 12 by decide)
      have z13_ := tz_neq_r c4079_ (show (13 : Int32).toInt = 13 by decide)
      have z14_ := tz_nlt_r c4080_ (show (14 : Int32).toInt = 14 by decide)
      have z15_ := tz_nle_l c4081_ (show (21 : Int32).toInt = 21 by decide)
      have z16_ := tz_eq_r c5063_ (show (5 : Int32).toInt = 5 by decide)
      omega
    · skip
      exfalso
      have z0_ := tz_neq_r c4066_ (show (0 : Int32).toInt = 0 by decide)
      have z1_ := tz_neq_r c4067_ (show (1 : Int32).toInt = 1 by decide)
      have z2_ := tz_neq_r c4068_ (show (2 : Int32).toInt = 2 by decide)
      have z3_ := tz_neq_r c4069_ (show (3 : Int32).toInt = 3 by decide)
      have z4_ := tz_neq_r c4070_ (show (4 : Int32).toInt = 4 by decide)
      have z5_ := tz_neq_r c4071_ (show (5 : Int32).toInt = 5 by decide)
      have z6_ := tz_neq_r c4072_ (show (6 : Int32).toInt = 6 by decide)
      have z7_ := tz_neq_r c4073_ (show (7 : Int32).toInt = 7 by decide)
      have z8_ := tz_neq_r c4074_ (show (8 : Int32).toInt = 8 by decide)
      have z9_ := tz_neq_r c4075_ (show (9 : Int32).toInt = 9 by decide)
      have z10_ := tz_neq_r c4076_ (show (10 : Int32).toInt = 10 by decide)
      have z11_ := tz_neq_r c4077_ (show (11 : Int32).toInt = 11 by decide)
      have z12_ := tz_neq_r c4078_ (show (12 : Int32).toInt = 12 by decide)
      have z13_ := tz_neq_r c4079_ (show (13 : Int32).toInt = 13 by decide)
      have z14_ := tz_nlt_r c4080_ (show (14 : Int32).toInt = 14 by decide)
      have z15_ := tz_nle_l c4081_ (show (21 : Int32).toInt = 21 by decide)
      have z16_ := tz_eq_r c5064_ (show (6 : Int32).toInt = 6 by decide)
      omega
    · skip
      exfalso
      have z0_ := tz_neq_r c4066_ (show (0 : Int32).toInt = 0 by decide)
      have z1_ := tz_neq_r c4067_ (show (1 : Int32).toInt = 1 by decide)
      have z2_ := tz_neq_r c4068_ (show (2 : Int32).toInt = 2 by decide)
      have z3_ := tz_neq_r c4069_ (show (3 : Int32).toInt = 3 by decide)
      have z4_ := tz_neq_r c4070_ (show (4 : Int32).toInt = 4 by decide)
      have z5_ := tz_neq_r c4071_ (show (5 : Int32).toInt = 5 by decide)
      have z6_ := tz_neq_r c4072_ (show (6 : Int32).toInt = 6 by decide)
      have z7_ := tz_neq_r c4073_ (show (7 : Int32).toInt = 7 by decide)
      have z8_ := tz_neq_r c4074_ (show (8 : Int32).toInt = 8 by decide)
      have z9_ := tz_neq_r c4075_ (show (9 : Int32).toInt = 9 by decide)
      have z10_ := tz_neq_r c4076_ (show (10 : Int32).toInt = 10 by decide)
      have z11_ := tz_neq_r c4077_ (show (11 : Int32).toInt = 11 by decide)
      have z12_ := tz_neq_r c4078_ (show (12 : Int32).toInt = 12 by decide)
      have z13_ := tz_neq_r c4079_ (show (13 : Int32).toInt = 13 by decide)
      have z14_ := tz_nlt_r c4080_ (show (14 : Int32).toInt = 14 by decide)
      have z15_ := tz_nle_l c4081_ (show (21 : Int32).toInt = 21 by decide)
      have z16_ := tz_eq_r c5065_ (show (7 : Int32).toInt = 7 by decide)
      omega
    · skip
      exfalso
      have z0_ := tz_neq_r c4066_ (show (0 : Int32).toInt = 0 by decide)
      have z1_ := tz_neq_r c4067_ (show (1 : Int32).toInt = 1 by decide)
      have z2_ := tz_neq_r c4068_ (show (2 : Int32).toInt = 2 by decide)
      have z3_ := tz_neq_r c4069_ (show (3 : Int32).toInt = 3 by decide)
      have z4_ := tz_neq_r c4070_ (show (4 : Int32).toInt = 4 by decide)
      have z5_ := tz_neq_r c4071_ (show (5 : Int32).toInt = 5 by decide)
      have z6_ := tz_neq_r c4072_ (show (6 : Int32).toInt = 6 by decide)
      have z7_ := tz_neq_r c4073_ (show (7 : Int32).toInt = 7 by decide)
      have z8_ := tz_neq_r c4074_ (show (8 : Int32).toInt = 8 by decide)
      have z9_ := tz_neq_r c4075_ (show (9 : Int32).toInt = 9 by decide)
      have z10_ := tz_neq_r c4076_ (show (10 : Int32).toInt = 10 by decide)
      have z11_ := tz_neq_r c4077_ (show (11 : Int32).toInt = 11 by decide)
      have z12_ := tz_neq_r c4078_ (show (12 : Int32).toInt = 12 by decide)
      have z13_ := tz_neq_r c4079_ (show (13 : Int32).toInt = 13 by decide)
      have z14_ := tz_nlt_r c4080_ (show (14 : Int32).toInt = 14 by decide)
      have z15_ := tz_nle_l c4081_ (show (21 : Int32).toInt = 21 by decide)
      have z16_ := tz_eq_r c5066_ (show (8 : Int32).toInt = 8 by decide)
      omega
    · skip
      exfalso
      have z0_ := tz_neq_r c4066_ (show (0 : Int32).toInt = 0 by decide)
      have z1_ := tz_neq_r c4067_ (show (1 : Int32).toInt = 1 by decide)
      have z2_ := tz_neq_r c4068_ (show (2 : Int32).toInt = 2 by decide)
      have z3_ := tz_neq_r c4069_ (show (3 : Int32).toInt = 3 by decide)
      have z4_ := tz_neq_r c4070_ (show (4 : Int32).toInt = 4 by decide)
      have z5_ := tz_neq_r c4071_ (show (5 : Int32).toInt = 5 by decide)
      have z6_ := tz_neq_r c4072_ (show (6 : Int32).toInt = 6 by decide)
      have z7_ := tz_neq_r c4073_ (show (7 : Int32).toInt = 7 by decide)
      have z8_ := tz_neq_r c4074_ (show (8 : Int32).toInt = 8 by decide)
      have z9_ := tz_neq_r c4075_ (show (9 : Int32).toInt = 9 by decide)
      have z10_ := tz_neq_r c4076_ (show (10 : Int32).toInt = 10 by decide)
      have z11_ := tz_neq_r c4077_ (show (11 : Int32).toInt = 11 by decide)
      have z12_ := tz_neq_r c4078_ (show (12 : Int32).toInt = 12 by decide)
      have z13_ := tz_neq_r c4079_ (show (13 : Int32).toInt = 13 by decide)
      have z14_ := tz_nlt_r c4080_ (show (14 : Int32).toInt = 14 by decide)
      have z15_ := tz_nle_l c4081_ (show (21 : Int32).toInt = 21 by decide)
      have z16_ := tz_eq_r c5067_ (show (9 : Int32).toInt = 9 by decide)
      omega
    · skip
      exfalso
      have z0_ := tz_neq_r c4066_ (show (0 : Int32).toInt = 0 by decide)
      have z1_ := tz_neq_r c4067_ (show (1 : Int32).toInt = 1 by decide)
      have z2_ := tz_neq_r c4068_ (show (2 : Int32).toInt = 2 by decide)
      have z3_ := tz_neq_r c4069_ (show (3 : Int32).toInt = 3 by decide)
      have z4_ := tz_neq_r c4070_ (show (4 : Int32).toInt = 4 by decide)
      have z5_ := tz_neq_r c4071_ (show (5 : Int32).toInt = 5 by decide)
      have z6_ := tz_neq_r c4072_ (show (6 : Int32).toInt = 6 by decide)
      have z7_ := tz_neq_r c4073_ (show (7 : Int32).toInt = 7 by decide)
      have z8_ := tz_neq_r c4074_ (show (8 : Int32).toInt = 8 by decide)
      have z9_ := tz_neq_r c4075_ (show (9 : Int32).toInt = 9 by decide)
      have z10_ := tz_neq_r c4076_ (show (10 : Int32).toInt = 10 by decide)
      have z11_ := tz_neq_r c4077_ (show (11 : Int32).toInt = 11 by decide)
      have z12_ := tz_neq_r c4078_ (show (12 : Int32).toInt = 12 by decide)
      have z13_ := tz_neq_r c4079_ (show (13 : Int32).toInt = 13 by decide)
      have z14_ := tz_nlt_r c4080_ (show (14 : Int32).toInt = 14 by decide)
      have z15_ := tz_nle_l c4081_ (show (21 : Int32).toInt = 21 by decide)
      have z16_ := tz_eq_r c5068_ (show (10 : Int32).toInt = 10 by decide)
      omega
    · skip
      exfalso
      have z0_ := tz_neq_r c4066_ (show (0 : Int32).toInt = 0 by decide)
      have z1_ := tz_neq_r c4067_ (show (1 : Int32).toInt = 1 by decide)
      have z2_ := tz_neq_r c4068_ (show (2 : Int32).toInt = 2 by decide)
      have z3_ := tz_neq_r c4069_ (show (3 : Int32).toInt = 3 by decide)
      have z4_ := tz_neq_r c4070_ (show (4 : Int32).toInt = 4 by decide)
      have z5_ := tz_neq_r c4071_ (show (5 : Int32).toInt = 5 by decide)
      have z6_ := tz_neq_r c4072_ (show (6 : Int32).toInt = 6 by decide)
      have z7_ := tz_neq_r c4073_ (show (7 : Int32).toInt = 7 by decide)
      have z8_ := tz_neq_r c4074_ (show (8 : Int32).toInt = 8 by decide)
      have z9_ := tz_neq_r c4075_ (show (9 : Int32).toInt = 9 by decide)
      have z10_ := tz_neq_r c4076_ (show (10 : Int32).toInt = 10 by decide)
      have z11_ := tz_neq_r c4077_ (show (11 : Int32).toInt = 11 by decide)
      have z12_ := tz_neq_r c4078_ (show (12 : Int32).toInt = 12 by decide)
      have z13_ := tz_neq_r c4079_ (show (13 : Int32).toInt = 13 by decide)
      have z14_ := tz_nlt_r c4080_ (show (14 : Int32).toInt = 14 by decide)
      have z15_ := tz_nle_l c4081_ (show (21 : Int32).toInt = 21 by decide)
      have z16_ := tz_eq_r c5069_ (show (11 : Int32).toInt = 11 by decide)
      omega
    · skip
      exfalso
      have z0_ := tz_neq_r c4066_ (show (0 : Int32).toInt = 0 by decide)
      have z1_ := tz_neq_r c4067_ (show (1 : Int32).toInt = 1 by decide)
      have z2_ := tz_neq_r c4068_ (show (2 : Int32).toInt = 2 by decide)
      have z3_ := tz_neq_r c4069_ (show (3 : Int32).toInt = 3 by decide)
      have z4_ := tz_neq_r c4070_ (show (4 : Int32).toInt = 4 by decide)
      have z5_ := tz_neq_r c4071_ (show (5 : Int32).toInt = 5 by decide)
      have z6_ := tz_neq_r c4072_ (show (6 : Int32).toInt = 6 by decide)
      have z7_ := tz_neq_r c4073_ (show (7 : Int32).toInt = 7 by decide)
      have z8_ := tz_neq_r c4074_ (show (8 : Int32).toInt = 8 by decide)
      have z9_ := tz_neq_r c4075_ (show (9 : Int32).toInt = 9 by decide)
      have z10_ := tz_neq_r c4076_ (show (10 : Int32).toInt = 10 by decide)
      have z11_ := tz_neq_r c4077_ (show (11 : Int32).toInt = 11 by decide)
      have z12_ := tz_neq_r c4078_ (show (12 : Int32).toInt = 12 by decide)
      have z13_ := tz_neq_r c4079_ (show (13 : Int32).toInt = 13 by decide)
      have z14_ := tz_nlt_r c4080_ (show (14 : Int32).toInt = 14 by decide)
      have z15_ := tz_nle_l c4081_ (show (21 : Int32).toInt = 21 by decide)
      have z16_ := tz_eq_r c5070_ (show (12 : Int32).toInt = 12 by decide)
      omega
    · skip
      exfalso
      have z0_ := tz_neq_r c4066_ (show (0 : Int32).toInt = 0 by decide)
      have z1_ := tz_neq_r c4067_ (show (1 : Int32).toInt = 1 by decide)
      have z2_ := tz_neq_r c4068_ (show (2 : Int32).toInt = 2 by decide)
      have z3_ := tz_neq_r c4069_ (show (3 : Int32).toInt = 3 by decide)
      have z4_ := tz_neq_r c4070_ (show (4 : Int32).toInt = 4 by decide)
      have z5_ := tz_neq_r c4071_ (show (5 : Int32).toInt = 5 by decide)
      have z6_ := tz_neq_r c4072_ (show (6 : Int32).toInt = 6 by decide)
      have z7_ := tz_neq_r c4073_ (show (7 : Int32).toInt = 7 by decide)
      have z8_ := tz_neq_r c4074_ (show (8 : Int32).toInt = 8 by decide)
      have z9_ := tz_neq_r c4075_ (show (9 : Int32).toInt = 9 by decide)
      have z10_ := tz_neq_r c4076_ (show (10 : Int32).toInt = 10 by decide)
      have z11_ := tz_neq_r c4077_ (show (11 : Int32).toInt = 11 by decide)
      have z12_ := tz_neq_r c4078_ (show (12 : Int32).toInt = 12 by decide)
      have z13_ := tz_neq_r c4079_ (show (13 : Int32).toInt = 13 by decide)
      have z14_ := tz_nlt_r c4080_ (show (14 : Int32).toInt = 14 by decide)
      have z15_ := tz_nle_l c4081_ (show (21 : Int32).toInt = 21 by decide)
      have z16_ := tz_eq_r c5071_ (show (13 : Int32).toInt = 13 by decide)
      omega
    · skip
      exfalso
      have z0_ := tz_neq_r c4066_ (show (0 : Int32).toInt = 0 by decide)
      have z1_ := tz_neq_r c4067_ (show (1 : Int32).toInt = 1 by decide)
      have z2_ := tz_neq_r c4068_ (show (2 : Int32).toInt = 2 by decide)
      have z3_ := tz_neq_r c4069_ (show (3 : Int32).toInt = 3 by decide)
      have z4_ := tz_neq_r c4070_ (show (4 : Int32).toInt = 4 by decide)
      have z5_ := tz_neq_r c4071_ (show (5 : Int32).toInt = 5 by decide)
      have z6_ := tz_neq_r c4072_ (show (6 : Int32).toInt = 6 by decide)
      have z7_ := tz_neq_r c4073_ (show (7 : Int32).toInt = 7 by decide)
      have z8_ := tz_neq_r c4074_ (show (8 : Int32).toInt = 8 by decide)
      have z9_ := tz_neq_r c4075_ (show (9 : Int32).toInt = 9 by decide)
      have z10_ := tz_neq_r c4076_ (show (10 : Int32).toInt = 10 by decide)
      have z11_ := tz_neq_r c4077_ (show (11 : Int32).toInt = 11 by decide)
      have z12_ := tz_neq_r c4078_ (show (12 : Int32).toInt = 12 by decide)
      have z13_ := tz_neq_r c4079_ (show (13 : Int32).toInt = 13 by decide)
      have z14_ := tz_nlt_r c4080_ (show (14 : Int32).toInt = 14 by decide)
      have z15_ := tz_nle_l c4081_ (show (21 : Int32).toInt = 21 by decide)
      have z16_ := tz_lt_r c5086_ (show (14 : Int32).toInt = 14 by decide)
      omega
    · skip
      exfalso
      have z0_ := tz_neq_r c4066_ (show (0 : Int32).toInt = 0 by decide)
      have z1_ := tz_neq_r c4067_ (show (1 : Int32).toInt = 1 by decide)
      have z2_ := tz_neq_r c4068_ (show (2 : Int32).toInt = 2 by decide)
      have z3_ := tz_neq_r c4069_ (show (3 : Int32).toInt = 3 by decide)
      have z4_ := tz_neq_r c4070_ (show (4 : Int32).toInt = 4 by decide)
      have z5_ := tz_neq_r c4071_ (show (5 : Int32).toInt = 5 by decide)
      have z6_ := tz_neq_r c4072_ (show (6 : Int32).toInt = 6 by decide)
      have z7_ := tz_neq_r c4073_ (show (7 : Int32).toInt = 7 by decide)
      have z8_ := tz_neq_r c4074_ (show (8 : Int32).toInt = 8 by decide)
      have z9_ := tz_neq_r c4075_ (show (9 : Int32).toInt = 9 by decide)
      have z10_ := tz_neq_r c4076_ (show (10 : Int32).toInt = 10 by decide)
      have z11_ := tz_neq_r c4077_ (show (11 : Int32).toInt = 11 by decide)
      have z12_ := tz_neq_r c4078_ (show (12 : Int32).toInt = 12 by decide)
      have z13_ := tz_neq_r c4079_ (show (13 : Int32).toInt = 13 by decide)
      have z14_ := tz_nlt_r c4080_ (show (14 : Int32).toInt = 14 by decide)
      have z15_ := tz_nle_l c4081_ (show (21 : Int32).toInt = 21 by decide)
      have z16_ := tz_lt_l c5102_ (show (20 : Int32).toInt = 20 by decide)
      omega
    · skip
      refine lv_icmp_eq (tgt := 983) hx hb dL_law_965 (by decide) (fun _ => ?_) (fun c9_ => absurd (by decide) c9_)
      refine lv_iinc (v := 6) (lv' := [(3, .int 6), (2, .ref (b 0)), (1, .ref (a 0)), (0, .ref sc)]) hx hb dL_law_983 hl (k := 0) rfl (by decide) (by decide) rfl (fun ls hl => ?_)
      refine lv_goto (tgt := 18) hx hb dL_law_986 (by decide) ?_
      refine lv_iload_n hx hb dL_law_18 rfl (lv_at hl 0 rfl) ?_
      refine lv_aload_n hx hb dL_law_19 rfl (lv_at hl 3 rfl) ?_
      refine va_slen hx hb hX hbl hbA hS dL_law_20 ?_
      refine tk_i 6 (by decide) ?_
      refine lv_bipush (v := 6) hx hb dL_law_21 (by decide) ?_
      refine lv_isub hx hb dL_law_23 ?_
      refine tk_i 0 (by decide) ?_
      refine lv_icmp_gt (tgt := 989) hx hb dL_law_24 (by decide) (fun _ => ?_) (fun c9_ => absurd (by decide) c9_)
      refine lv_iconst (v := 1) hx hb dL_law_989 (by decide) ?_
      refine va_forget (fun q hq => by have h := hS.2.2 q hq; rw [hAe] at h; exact h) ?_
      refine W.widen (k := 600000) (n := 7302249) (Nat.le_of_ble_eq_true rfl) (Nat.le_of_ble_eq_true rfl) ?_
      exact lw_ret hx hb hr hlocks dL_law_990
